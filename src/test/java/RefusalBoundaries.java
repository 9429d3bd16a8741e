import java.util.ArrayList;
import java.util.List;
import java.util.function.ToLongFunction;

/** What the document says of refusals: which comes first, how a long tells it, and that it changes nothing. */
final class RefusalBoundaries {
    private static final int BAD = Houses.BAD, NULL = Houses.NULL, HIGH = Houses.HIGH;
    private static final int GREAT = Houses.GREAT, LONG = Houses.LONG, FULL = Houses.FULL, MOST = Houses.MOST;
    private static final int[] OUTSIDE = {Integer.MIN_VALUE, -1, 1000000000, Integer.MAX_VALUE};

    /** A call that is refused in the rich house. */
    private record Refused(String told, ToLongFunction<MeetHouse> call, long due) {
    }

    private final Sentences said;
    private final List<Refused> refused = new ArrayList<>();

    RefusalBoundaries(Sentences said) {
        this.said = said;
    }

    void all() {
        badAheadOfNull();
        nullAheadOfTheRest();
        highAheadOfGreatAndLong();
        greatAheadOfLong();
        badAheadOfFull();
        longAnswers();
        theyChangeNothing();
    }

    /**
     * Sheet 0 is letter 1, sheet 1 has 600 terms, sheet 2 none, sheet 3 two of 100000000, sheet 4 exponents 8,
     * sheet 6 has terms with a difference of 601, sheet 10 is 1 and letter 5; the others are LOST.
     * The list is full; rods 0 to 2 are there over 3.
     */
    private static MeetHouse rich() {
        MeetHouse x = new MeetHouse();
        Houses.grid(x, 1, 44350);
        Houses.grid(x, 6, 77000);
        Houses.put(x, 0, 1, 10000);
        x.blank(2);
        Houses.put(x, 3, MOST, 10000, -MOST, 1000);
        Houses.put(x, 4, 1, 88888);
        Houses.put(x, 5, 1, 80);
        x.product(6, 6, 5);
        for (int exponent = 1; exponent <= 8; exponent++) {
            x.add(6, 1, 100 * exponent + 80);
        }
        x.add(6, 1, 10180);
        x.add(6, 1, 10280);
        x.add(6, 1, 10380);
        x.add(6, 1, 10410);
        x.lose(5);
        Houses.put(x, 10, 1, 1, 1, 0);
        x.begin(2, 3);
        for (int at = 0; at < 16; at++) {
            x.condition(at % 3 == 0 ? 10 : 0);
        }
        x.field(3);
        x.rod(0, 1000, 100);
        x.rod(1, 10, 1);
        x.rod(2, 1000, 2);
        return x;
    }

    /** All that can be asked of a house without a change. */
    private static List<Long> look(MeetHouse x) {
        List<Long> seen = new ArrayList<>();
        seen.add(x.digest());
        for (int sheet = 0; sheet < 12; sheet++) {
            seen.add((long) x.terms(sheet));
        }
        for (int what = 0; what < 6; what++) {
            seen.add((long) x.count(what));
        }
        for (int a = 0; a < 8; a++) {
            for (int b = a; b < 8; b++) {
                seen.add((long) x.meet(a, b));
            }
        }
        seen.add((long) x.lines(7));
        seen.add((long) x.points(7));
        seen.add(x.meeting());
        seen.add(x.part(0, 21));
        return seen;
    }

    /** What is made of a house then; nothing of a refused call may come into it. */
    private static List<Long> goOn(MeetHouse x) {
        List<Long> seen = new ArrayList<>();
        seen.add((long) x.sum(7, 0, 2, 5));
        seen.add((long) x.product(8, 0, 0));
        seen.add((long) x.turned(9, 1, 4));
        seen.add((long) x.difference(10, 0, 1));
        seen.add((long) x.polynomial(11, 1432));
        seen.add((long) x.add(2, 7, 55555));
        seen.add(x.constant(132, 132, 231));
        seen.add((long) x.fillings(3, 3, 210, 210, 321));
        seen.add((long) x.strip(4, 4, 2100, 2, 1));
        seen.add((long) x.step(132, 2, 1));
        seen.add(x.digest());
        seen.add((long) x.begin(2, 2));
        seen.add((long) x.condition(22));
        seen.add(x.meeting());
        seen.add((long) x.rod(7, 1, 100));
        seen.add((long) x.drop(0));
        seen.add((long) x.lines(134));
        seen.add((long) x.field(2));
        seen.add(x.digest());
        return seen;
    }

    private void badAheadOfNull() {
        said.name("Terms", "Refusals, the first that fits: BAD -2 (a number not as told, no such thing),");
        MeetHouse x = rich();
        for (int no : OUTSIDE) {
            said.due("add(5, 1, no)", x.add(5, 1, no), BAD);
            said.due("add(5, no number, 0)", x.add(5, MOST + 1L, 0), BAD);
            said.due("number(5, no)", x.number(5, no), Houses.BAD_LONG);
            said.due("sum(no, 5, 5, 1)", x.sum(no, 5, 5, 1), BAD);
            said.due("sum(0, no, 5, 1)", x.sum(0, no, 5, 1), BAD);
            said.due("sum(0, 5, no, 1)", x.sum(0, 5, no, 1), BAD);
            said.due("product(no, 5, 5)", x.product(no, 5, 5), BAD);
            said.due("product(0, no, 5)", x.product(0, no, 5), BAD);
            said.due("product(0, 5, no)", x.product(0, 5, no), BAD);
            said.due("product(no, 4, 4), not HIGH", x.product(no, 4, 4), BAD);
            said.due("turned(no, 5, 1)", x.turned(no, 5, 1), BAD);
            said.due("turned(0, 5, no)", x.turned(0, 5, no), BAD);
            said.due("difference(no, 5, 1)", x.difference(no, 5, 1), BAD);
            said.due("difference(0, 5, no)", x.difference(0, 5, no), BAD);
            said.due("difference(no, 3, 1), not GREAT", x.difference(no, 3, 1), BAD);
            said.due("difference(no, 6, 4), not LONG", x.difference(no, 6, 4), BAD);
            said.due("part(5, no)", x.part(5, no), Houses.BAD_LONG);
            said.due("same(5, no)", x.same(5, no), BAD);
            said.due("same(no, 5)", x.same(no, 5), BAD);
            said.due("meet(7, no)", x.meet(7, no), BAD);
            said.due("meet(no, 7)", x.meet(no, 7), BAD);
        }
        for (int m : new int[] {-1000001, 1000001}) {
            said.due("sum(0, 5, 5, m)", x.sum(0, 5, 5, m), BAD);
            said.due("sum(0, 3, 3, m), not GREAT", x.sum(0, 3, 3, m), BAD);
        }
        said.due("lines(256), rods missing", x.lines(256), BAD);
        said.due("points(256), rods missing", x.points(256), BAD);
    }

    private void nullAheadOfTheRest() {
        said.name("Terms", "NULL -3 (a SHEET is LOST, a ROD is missing),");
        MeetHouse x = rich();
        said.due("product(0, 4, 5), not HIGH", x.product(0, 4, 5), NULL);
        said.due("product(0, 5, 4)", x.product(0, 5, 4), NULL);
        said.due("sum(0, 3, 5, 2), not GREAT", x.sum(0, 3, 5, 2), NULL);
        said.due("sum(0, 5, 3, 1000000)", x.sum(0, 5, 3, 1000000), NULL);
        said.due("sum(0, 1, 5, 1)", x.sum(0, 1, 5, 1), NULL);
        said.due("add(5, 100000000, 88888)", x.add(5, MOST, 88888), NULL);
        said.due("exponents(5, -1), ahead of BAD", x.exponents(5, -1), NULL);
        said.due("exponents(1, -1)", x.exponents(1, -1), BAD);
        said.due("lines(8), missing", x.lines(8), NULL);
        said.due("points(9), one missing", x.points(9), NULL);
        said.due("meet(0, 3), one missing", x.meet(0, 3), NULL);
        said.due("drop(3), missing", x.drop(3), NULL);
    }

    private void highAheadOfGreatAndLong() {
        said.name("Terms", "HIGH -4,");
        MeetHouse x = rich();
        said.due("product(7, 3, 3), GREAT alone", x.product(7, 3, 3), GREAT);
        x.add(3, 1, 88888);
        said.due("product(7, 3, 3), HIGH too", x.product(7, 3, 3), HIGH);
        Houses.put(x, 7, 1, 4, 1, 0);
        said.due("product(8, 1, 7), LONG alone", x.product(8, 1, 7), LONG);
        x.add(7, 1, 80000);
        said.due("product(8, 1, 7), HIGH too", x.product(8, 1, 7), HIGH);
        said.due("product(8, 7, 1), HIGH too", x.product(8, 7, 1), HIGH);
        said.due("terms(8)", x.terms(8), NULL);
    }

    private void greatAheadOfLong() {
        said.name("Terms", "GREAT -5, LONG -6,");
        MeetHouse x = rich();
        Houses.put(x, 7, 1, 88888);
        said.due("sum(8, 1, 7, 1), LONG alone", x.sum(8, 1, 7, 1), LONG);
        x.add(7, MOST, 0);
        said.due("sum(8, 1, 7, 1), GREAT too", x.sum(8, 1, 7, 1), GREAT);
        said.due("sum(8, 7, 1, 1), GREAT too", x.sum(8, 7, 1, 1), GREAT);
        x.add(7, -MOST, 0);
        x.add(7, MOST, 44350);
        said.due("sum(8, 1, 7, 1), GREAT at the other end", x.sum(8, 1, 7, 1), GREAT);
        Houses.put(x, 7, 1, 4, 1, 0);
        x.add(1, 1, 10);
        said.due("product(8, 1, 7), LONG alone", x.product(8, 1, 7), LONG);
        Houses.put(x, 7, MOST, 4, 1, 0);
        said.due("product(8, 1, 7), GREAT too", x.product(8, 1, 7), GREAT);
        Houses.put(x, 7, 1, 4, MOST, 0);
        said.due("product(8, 1, 7), GREAT too", x.product(8, 1, 7), GREAT);
        said.due("difference(8, 6, 4), LONG alone", x.difference(8, 6, 4), LONG);
        said.due("part(6, 12354), LONG alone", x.part(6, 12354), Houses.LONG_LONG);
        x.add(6, MOST, 10);
        x.add(6, -MOST, 1);
        said.due("difference(8, 6, 4), GREAT too", x.difference(8, 6, 4), GREAT);
        said.due("part(6, 12354), GREAT too", x.part(6, 12354), Houses.GREAT_LONG);
        said.due("terms(8)", x.terms(8), NULL);
    }

    private void badAheadOfFull() {
        said.name("Terms", "FULL -7.");
        MeetHouse x = rich();
        said.due("condition(12)", x.condition(12), BAD);
        said.due("condition(40)", x.condition(40), BAD);
        said.due("condition(-1)", x.condition(-1), BAD);
        said.due("condition(33)", x.condition(33), FULL);
        said.due("condition(0)", x.condition(0), FULL);
    }

    private void longAnswers() {
        said.name("Terms", "Where the answer is a long, a refusal -x is the least long and x more.");
        MeetHouse x = rich();
        said.due("number(12, 0)", x.number(12, 0), -9223372036854775808L + 2);
        said.due("number(5, 0)", x.number(5, 0), -9223372036854775808L + 3);
        said.due("number(3, 1000), -100000000", x.number(3, 1000), -100000000);
        said.due("part(12, 1)", x.part(12, 1), -9223372036854775808L + 2);
        said.due("part(5, 1)", x.part(5, 1), -9223372036854775808L + 3);
        said.due("part(3, 21)", x.part(3, 21), -9223372036854775808L + 5);
        said.due("part(6, 12354)", x.part(6, 12354), -9223372036854775808L + 6);
        Houses.put(x, 7, -2, 0);
        said.due("part(7, 1), the number -2", x.part(7, 1), -2);
        said.due("number(7, 0), the number -2", x.number(7, 0), -2);
        said.due("constant(0, 1, 1)", x.constant(0, 1, 1), -9223372036854775808L + 2);
        said.due("constant(1, 1, 22)", x.constant(1, 1, 22), -9223372036854775808L + 2);
    }

    private void refuse(String told, long due, ToLongFunction<MeetHouse> call) {
        refused.add(new Refused(told, call, due));
    }

    private void ofOrders() {
        refuse("length(22)", BAD, x -> x.length(22));
        refuse("exchange(2143, 4)", BAD, x -> x.exchange(2143, 4));
        refuse("exchange(2144, 1)", BAD, x -> x.exchange(2144, 1));
        refuse("inverse(0)", BAD, x -> x.inverse(0));
        refuse("orders(6, 0)", BAD, x -> x.orders(6, 0));
        refuse("orders(5, -1)", BAD, x -> x.orders(5, -1));
        refuse("step(54321, 1, 0)", BAD, x -> x.step(54321, 1, 0));
        refuse("step(132, 4, 0)", BAD, x -> x.step(132, 4, 0));
        refuse("step(132, 2, 2)", Houses.NONE, x -> x.step(132, 2, 2));
    }

    private void ofSheets() {
        refuse("blank(12)", BAD, x -> x.blank(12));
        refuse("lose(-1)", BAD, x -> x.lose(-1));
        refuse("lose(5)", NULL, x -> x.lose(5));
        refuse("add(12, 1, 0)", BAD, x -> x.add(12, 1, 0));
        refuse("add(0, 100000001, 0)", BAD, x -> x.add(0, MOST + 1L, 0));
        refuse("add(0, 1, 88889)", BAD, x -> x.add(0, 1, 88889));
        refuse("add(5, 1, 0)", NULL, x -> x.add(5, 1, 0));
        refuse("add(3, 1, 10000)", GREAT, x -> x.add(3, 1, 10000));
        refuse("add(1, 1, 88888)", LONG, x -> x.add(1, 1, 88888));
        refuse("terms(12)", BAD, x -> x.terms(12));
        refuse("exponents(0, 1)", BAD, x -> x.exponents(0, 1));
        refuse("exponents(5, 0)", NULL, x -> x.exponents(5, 0));
        refuse("number(0, 9)", Houses.BAD_LONG, x -> x.number(0, 9));
        refuse("number(5, 0)", Houses.NULL_LONG, x -> x.number(5, 0));
        refuse("same(0, 12)", BAD, x -> x.same(0, 12));
        refuse("same(0, 5)", NULL, x -> x.same(0, 5));
    }

    private void ofWhatIsMade() {
        for (int c : new int[] {0, 1, 3, 4, 5, 6, 10}) {
            refuse("sum(" + c + ", 12, 0, 1)", BAD, x -> x.sum(c, 12, 0, 1));
            refuse("sum(" + c + ", 0, 0, 1000001)", BAD, x -> x.sum(c, 0, 0, 1000001));
            refuse("sum(" + c + ", 0, 5, 1)", NULL, x -> x.sum(c, 0, 5, 1));
            refuse("sum(" + c + ", 3, 3, 1)", GREAT, x -> x.sum(c, 3, 3, 1));
            refuse("sum(" + c + ", 1, 4, 1)", LONG, x -> x.sum(c, 1, 4, 1));
            refuse("product(" + c + ", 0, -1)", BAD, x -> x.product(c, 0, -1));
            refuse("product(" + c + ", 5, 0)", NULL, x -> x.product(c, 5, 0));
            refuse("product(" + c + ", 4, 0)", HIGH, x -> x.product(c, 4, 0));
            refuse("product(" + c + ", 3, 3)", GREAT, x -> x.product(c, 3, 3));
            refuse("product(" + c + ", 1, 10)", LONG, x -> x.product(c, 1, 10));
            refuse("turned(" + c + ", 0, 5)", BAD, x -> x.turned(c, 0, 5));
            refuse("turned(" + c + ", 7, 1)", NULL, x -> x.turned(c, 7, 1));
            refuse("difference(" + c + ", 0, 0)", BAD, x -> x.difference(c, 0, 0));
            refuse("difference(" + c + ", 7, 1)", NULL, x -> x.difference(c, 7, 1));
            refuse("difference(" + c + ", 3, 1)", GREAT, x -> x.difference(c, 3, 1));
            refuse("difference(" + c + ", 6, 4)", LONG, x -> x.difference(c, 6, 4));
            refuse("polynomial(" + c + ", 122)", BAD, x -> x.polynomial(c, 122));
        }
        refuse("sum(12, 0, 0, 1)", BAD, x -> x.sum(12, 0, 0, 1));
        refuse("product(12, 0, 0)", BAD, x -> x.product(12, 0, 0));
        refuse("turned(12, 0, 1)", BAD, x -> x.turned(12, 0, 1));
        refuse("difference(12, 0, 1)", BAD, x -> x.difference(12, 0, 1));
        refuse("polynomial(12, 1)", BAD, x -> x.polynomial(12, 1));
        refuse("part(0, 22)", Houses.BAD_LONG, x -> x.part(0, 22));
        refuse("part(5, 1)", Houses.NULL_LONG, x -> x.part(5, 1));
        refuse("part(3, 21)", Houses.GREAT_LONG, x -> x.part(3, 21));
        refuse("part(6, 12354)", Houses.LONG_LONG, x -> x.part(6, 12354));
        refuse("constant(1, 22, 1)", Houses.BAD_LONG, x -> x.constant(1, 22, 1));
    }

    private void ofBoxes() {
        refuse("strip(2, 3, 12, 0, 0)", BAD, x -> x.strip(2, 3, 12, 0, 0));
        refuse("strip(2, 3, 10, 17, 0)", BAD, x -> x.strip(2, 3, 10, 17, 0));
        refuse("strip(2, 3, 10, 2, 2)", Houses.NONE, x -> x.strip(2, 3, 10, 2, 2));
        refuse("fillings(5, 1, 0, 0, 0)", BAD, x -> x.fillings(5, 1, 0, 0, 0));
        refuse("fillings(2, 3, 0, 12, 33)", BAD, x -> x.fillings(2, 3, 0, 12, 33));
        refuse("orderOf(2, 4, 0)", BAD, x -> x.orderOf(2, 4, 0));
        refuse("begin(5, 2)", BAD, x -> x.begin(5, 2));
        refuse("begin(2, 0)", BAD, x -> x.begin(2, 0));
        refuse("condition(12)", BAD, x -> x.condition(12));
        refuse("condition(33)", FULL, x -> x.condition(33));
    }

    private void ofSpace() {
        refuse("field(4)", BAD, x -> x.field(4));
        refuse("rod(8, 1, 10)", BAD, x -> x.rod(8, 1, 10));
        for (int rod : new int[] {0, 3}) {
            refuse("rod(" + rod + ", 3, 10)", BAD, x -> x.rod(rod, 3, 10));
            refuse("rod(" + rod + ", 10, 3)", BAD, x -> x.rod(rod, 10, 3));
            refuse("rod(" + rod + ", 0, 10)", BAD, x -> x.rod(rod, 0, 10));
            refuse("rod(" + rod + ", 1021, 2012)", BAD, x -> x.rod(rod, 1021, 2012));
        }
        refuse("drop(8)", BAD, x -> x.drop(8));
        refuse("drop(3)", NULL, x -> x.drop(3));
        refuse("meet(0, 8)", BAD, x -> x.meet(0, 8));
        refuse("meet(0, 3)", NULL, x -> x.meet(0, 3));
        refuse("lines(256)", BAD, x -> x.lines(256));
        refuse("lines(15)", NULL, x -> x.lines(15));
        refuse("points(-1)", BAD, x -> x.points(-1));
        refuse("points(15)", NULL, x -> x.points(15));
        refuse("count(6)", BAD, x -> x.count(6));
    }

    private void theyChangeNothing() {
        said.name("Terms", "They change nothing.");
        ofOrders();
        ofSheets();
        ofWhatIsMade();
        ofBoxes();
        ofSpace();
        MeetHouse left = rich();
        List<Long> before = look(left);
        List<Long> behind = goOn(left);
        for (Refused each : refused) {
            MeetHouse x = rich();
            said.due(each.told(), each.call().applyAsLong(x), each.due());
            said.holds("all as it was behind " + each.told(), look(x).equals(before));
            said.holds("all that is made behind " + each.told(), goOn(x).equals(behind));
        }
    }
}
