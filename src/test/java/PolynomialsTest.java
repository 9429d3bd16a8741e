import java.util.Arrays;

/** Promises 7 to 20: sheets and what is made on them. */
public final class PolynomialsTest {
    private static final int BAD = -2, NULL = -3, HIGH = -4, GREAT = -5, LONG = -6;
    private static final long BAD_LONG = Long.MIN_VALUE + 2, NULL_LONG = Long.MIN_VALUE + 3;
    private static final long GREAT_LONG = Long.MIN_VALUE + 5, LONG_LONG = Long.MIN_VALUE + 6;
    private static final Check CHECK = new Check("PolynomialsTest");
    private static final int[] NO_SHEETS = {Integer.MIN_VALUE, -1, 12, 13, Integer.MAX_VALUE};
    private static final int[] NO_ORDERS = {Integer.MIN_VALUE, -1, 0, 2, 22, 1223, 12346, 123456, Integer.MAX_VALUE};
    private static final int[] NO_EXPONENTS = {Integer.MIN_VALUE, -1, 9, 90, 900, 9000, 90000, 88889, 19000, 99999,
        100000, 100001, Integer.MAX_VALUE};

    public static void main(String[] args) {
        blankAndLose();
        add();
        termsAndExponents();
        number();
        sum();
        product();
        turned();
        difference();
        differenceTooMuch();
        polynomial();
        part();
        partOnTheWay();
        constant();
        same();
        CHECK.end();
    }

    /** A house whose sheet has terms: number, exponents, number, exponents .. */
    private static MeetHouse with(int sheet, int... terms) {
        MeetHouse x = new MeetHouse();
        put(x, sheet, terms);
        return x;
    }

    private static void put(MeetHouse x, int sheet, int... terms) {
        x.blank(sheet);
        for (int at = 0; at < terms.length; at += 2) {
            x.add(sheet, terms[at], terms[at + 1]);
        }
    }

    /** The sheet has just these terms, told as for put, in this order. */
    private static void has(String what, MeetHouse x, int sheet, int... terms) {
        CHECK.due(what + ": terms", x.terms(sheet), terms.length / 2);
        for (int at = 0; at < terms.length; at += 2) {
            CHECK.due(what + ": exponents " + at / 2, x.exponents(sheet, at / 2), terms[at + 1]);
            CHECK.due(what + ": number " + at / 2, x.number(sheet, terms[at + 1]), terms[at]);
        }
    }

    /** A call was refused: the digest is what it was. */
    private static void refused(String what, MeetHouse x, long before, long got, long want) {
        CHECK.due(what, got, want);
        CHECK.due(what + ": nothing changed", x.digest(), before);
    }

    private static void blankAndLose() {
        MeetHouse x = new MeetHouse();
        CHECK.due("8: lose(3), LOST", x.lose(3), NULL);
        for (int sheet = 0; sheet < 12; sheet++) {
            CHECK.due("7: blank(" + sheet + ")", x.blank(sheet), 1);
            CHECK.due("7: terms", x.terms(sheet), 0);
        }
        CHECK.due("7: kept", x.count(0), 12);
        put(x, 3, 1, 1, 2, 10, 3, 100);
        CHECK.due("8: lose(3)", x.lose(3), 3);
        CHECK.due("8: lost then", x.terms(3), NULL);
        CHECK.due("8: the others not", x.count(0), 11);
        CHECK.due("8: lose(3) again", x.lose(3), NULL);
        CHECK.due("8: a sheet without terms", x.lose(4), 0);
        put(x, 5, 1, 1, 2, 10);
        CHECK.due("7: blank(5), with terms", x.blank(5), 1);
        CHECK.due("7: they are gone", x.terms(5), 0);
        long before = x.digest();
        for (int sheet : NO_SHEETS) {
            refused("7: blank(" + sheet + ")", x, before, x.blank(sheet), BAD);
            refused("8: lose(" + sheet + ")", x, before, x.lose(sheet), BAD);
        }
    }

    private static void add() {
        MeetHouse x = new MeetHouse();
        CHECK.due("9: LOST", x.add(0, 1, 0), NULL);
        x.blank(0);
        CHECK.due("9: nothing comes", x.add(0, 0, 12345), 0);
        CHECK.due("9: a first", x.add(0, 5, 12345), 1);
        CHECK.due("9: to the same", x.add(0, -3, 12345), 1);
        has("9", x, 0, 2, 12345);
        CHECK.due("9: to none", x.add(0, -2, 12345), 0);
        CHECK.due("9: the greatest exponents", x.add(0, 1, 88888), 1);
        CHECK.due("9: no exponents", x.add(0, 100000000, 0), 2);
        CHECK.due("9: between", x.add(0, -100000000, 80000), 3);
        has("9", x, 0, 1, 88888, -100000000, 80000, 100000000, 0);
        long before = x.digest();
        refused("9: above", x, before, x.add(0, 1, 0), GREAT);
        refused("9: below", x, before, x.add(0, -1, 80000), GREAT);
        refused("9: far above", x, before, x.add(0, 100000000, 0), GREAT);
        refused("9: a number above", x, before, x.add(0, 100000001, 1), BAD);
        refused("9: a number below", x, before, x.add(0, -100000001, 1), BAD);
        refused("9: the greatest number", x, before, x.add(0, Long.MAX_VALUE, 1), BAD);
        refused("9: the least number", x, before, x.add(0, Long.MIN_VALUE, 1), BAD);
        refused("9: a number beyond an int", x, before, x.add(0, 1L << 32, 1), BAD);
        refused("9: BAD ahead of NULL", x, before, x.add(1, 100000001, 1), BAD);
        for (int sheet : NO_SHEETS) {
            refused("9: add(" + sheet + ")", x, before, x.add(sheet, 1, 1), BAD);
        }
        for (int exponents : NO_EXPONENTS) {
            refused("9: exponents " + exponents, x, before, x.add(0, 1, exponents), BAD);
            refused("9: exponents " + exponents + ", LOST", x, before, x.add(1, 1, exponents), BAD);
        }
        CHECK.due("9: back from the edge", x.add(0, -1, 0), 3);
        fullSheet();
    }

    /** Sheet 9 has 600 terms, all with number 1: exponents up to 4, 4, 3, 5 of letters 1 to 4. */
    private static MeetHouse full() {
        MeetHouse x = hundred(9);
        put(x, 3, 1, 50, 1, 40, 1, 30, 1, 20, 1, 10, 1, 0);
        x.product(9, 9, 3);
        return x;
    }

    /** The sheet has 100 terms, all with number 1: exponents up to 4, 4, 3 of letters 1 to 3. */
    private static MeetHouse hundred(int sheet) {
        MeetHouse x = with(0, 1, 40000, 1, 30000, 1, 20000, 1, 10000, 1, 0);
        put(x, 1, 1, 4000, 1, 3000, 1, 2000, 1, 1000, 1, 0);
        put(x, 2, 1, 300, 1, 200, 1, 100, 1, 0);
        x.product(sheet, 0, 1);
        x.product(sheet, sheet, 2);
        return x;
    }

    private static void fullSheet() {
        MeetHouse x = full();
        CHECK.due("9: 600 terms", x.terms(9), 600);
        long before = x.digest();
        refused("9: one more", x, before, x.add(9, 1, 88888), LONG);
        refused("9: nothing more", x, before, x.add(9, 0, 88888), 600);
        refused("9: GREAT there", x, before, x.add(9, 100000000, 0), GREAT);
        CHECK.due("9: of the same", x.add(9, 5, 0), 600);
        CHECK.due("9: one less", x.add(9, -6, 0), 599);
        CHECK.due("9: one more then", x.add(9, 1, 88888), 600);
        CHECK.due("9: it is the first", x.exponents(9, 0), 88888);
        CHECK.due("9: the last", x.exponents(9, 599), 10);
        CHECK.due("9: behind the last", x.exponents(9, 600), BAD);
    }

    private static void termsAndExponents() {
        MeetHouse x = with(2, 7, 1, -7, 10, 8, 10000, 9, 8888);
        CHECK.due("10: terms", x.terms(2), 4);
        CHECK.due("10: LOST", x.terms(1), NULL);
        int[] due = {10000, 8888, 10, 1};
        for (int t = 0; t < due.length; t++) {
            CHECK.due("11: exponents(2, " + t + ")", x.exponents(2, t), due[t]);
        }
        for (int t : new int[] {Integer.MIN_VALUE, -1, 4, 5, 600, Integer.MAX_VALUE}) {
            CHECK.due("11: exponents(2, " + t + ")", x.exponents(2, t), BAD);
            CHECK.due("11: NULL is ahead of that", x.exponents(1, t), NULL);
        }
        x.blank(2);
        CHECK.due("11: without terms", x.exponents(2, 0), BAD);
        for (int sheet : NO_SHEETS) {
            CHECK.due("10: terms(" + sheet + ")", x.terms(sheet), BAD);
            CHECK.due("11: exponents(" + sheet + ", 0)", x.exponents(sheet, 0), BAD);
        }
    }

    private static void number() {
        MeetHouse x = with(2, 7, 1, -7, 10, -100000000, 88888);
        CHECK.due("12: first", x.number(2, 88888), -100000000);
        CHECK.due("12: second", x.number(2, 10), -7);
        CHECK.due("12: third", x.number(2, 1), 7);
        CHECK.due("12: without", x.number(2, 0), 0);
        CHECK.due("12: without", x.number(2, 100), 0);
        CHECK.due("12: LOST", x.number(0, 1), NULL_LONG);
        for (int sheet : NO_SHEETS) {
            CHECK.due("12: number(" + sheet + ", 1)", x.number(sheet, 1), BAD_LONG);
        }
        for (int exponents : NO_EXPONENTS) {
            CHECK.due("12: exponents " + exponents, x.number(2, exponents), BAD_LONG);
            CHECK.due("12: exponents " + exponents + ", LOST", x.number(0, exponents), BAD_LONG);
        }
    }

    private static void sum() {
        MeetHouse x = with(0, 1, 10000, 2, 1000, 3, 100);
        put(x, 1, 1, 10000, -1, 1000, 5, 1);
        CHECK.due("13: a and 2 b", x.sum(2, 0, 1, 2), 3);
        has("13: a and 2 b", x, 2, 3, 10000, 3, 100, 10, 1);
        CHECK.due("13: a less b", x.sum(3, 0, 1, -1), 3);
        has("13: a less b", x, 3, 3, 1000, 3, 100, -5, 1);
        CHECK.due("13: no b", x.sum(4, 0, 1, 0), 3);
        CHECK.due("13: that is a", x.same(4, 0), 1);
        CHECK.due("13: a less a", x.sum(0, 0, 0, -1), 0);
        CHECK.due("13: a is b is c", x.sum(1, 1, 1, 1000000), 3);
        has("13: a is b is c", x, 1, 1000001, 10000, -1000001, 1000, 5000005, 1);
        CHECK.due("13: c is b", x.sum(4, 3, 4, 1), 4);
        has("13: c is b", x, 4, 1, 10000, 5, 1000, 6, 100, -5, 1);
        put(x, 5, 100000000, 1);
        put(x, 6, -99999999, 1);
        CHECK.due("13: great on the way alone", x.sum(7, 5, 6, 2), 1);
        has("13: great on the way alone", x, 7, -99999998, 1);
        long before = x.digest();
        refused("13: above", x, before, x.sum(7, 5, 5, 1), GREAT);
        refused("13: below", x, before, x.sum(7, 6, 5, -1), GREAT);
        refused("13: far", x, before, x.sum(7, 5, 5, 1000000), GREAT);
        refused("13: a LOST", x, before, x.sum(7, 11, 5, 1), NULL);
        refused("13: b LOST", x, before, x.sum(7, 5, 11, 1), NULL);
        refused("13: b LOST, none of it", x, before, x.sum(7, 5, 11, 0), NULL);
        refused("13: m above", x, before, x.sum(7, 11, 11, 1000001), BAD);
        refused("13: m below", x, before, x.sum(7, 11, 11, -1000001), BAD);
        for (int sheet : NO_SHEETS) {
            refused("13: c " + sheet, x, before, x.sum(sheet, 11, 11, 1), BAD);
            refused("13: a " + sheet, x, before, x.sum(7, sheet, 11, 1), BAD);
            refused("13: b " + sheet, x, before, x.sum(7, 11, sheet, 1), BAD);
        }
        CHECK.due("13: m -1000000", x.sum(8, 2, 0, -1000000), 3);
        MeetHouse y = full();
        put(y, 0, 1, 88888);
        before = y.digest();
        refused("13: LONG", y, before, y.sum(1, 9, 0, 1), LONG);
        refused("13: LONG by m", y, before, y.sum(9, 0, 9, 2), LONG);
        put(y, 0, 1, 88888, 100000000, 0);
        before = y.digest();
        refused("13: GREAT ahead of LONG", y, before, y.sum(1, 0, 9, 1), GREAT);
    }

    private static void product() {
        MeetHouse x = with(0, 1, 10000, 1, 1000);
        put(x, 1, 1, 10000, -1, 1000);
        CHECK.due("14: product", x.product(2, 0, 1), 2);
        has("14: product", x, 2, 1, 20000, -1, 2000);
        CHECK.due("14: in place", x.product(0, 0, 0), 3);
        has("14: in place", x, 0, 1, 20000, 2, 11000, 1, 2000);
        x.blank(3);
        CHECK.due("14: without terms", x.product(4, 3, 0), 0);
        CHECK.due("14: without terms", x.product(4, 0, 3), 0);
        put(x, 5, 3, 44444);
        CHECK.due("14: exponents 8", x.product(6, 5, 5), 1);
        has("14: exponents 8", x, 6, 9, 88888);
        CHECK.due("14: nothing is not HIGH", x.product(7, 6, 3), 0);
        put(x, 8, 10000, 0);
        CHECK.due("14: the greatest", x.product(9, 8, 8), 1);
        has("14: the greatest", x, 9, 100000000, 0);
        put(x, 7, 10001, 1, 10000, 0);
        put(x, 10, 10001, 1);
        long before = x.digest();
        refused("14: GREAT", x, before, x.product(9, 10, 8), GREAT);
        refused("14: GREAT", x, before, x.product(9, 9, 9), GREAT);
        for (int letter = 1; letter <= 10000; letter *= 10) {
            put(x, 10, 100000000, letter);
            before = x.digest();
            refused("14: HIGH in " + letter, x, before, x.product(10, 10, 6), HIGH);
            refused("14: HIGH in " + letter, x, before, x.product(10, 6, 10), HIGH);
        }
        refused("14: a LOST", x, before, x.product(0, 11, 0), NULL);
        refused("14: b LOST", x, before, x.product(0, 0, 11), NULL);
        for (int sheet : NO_SHEETS) {
            refused("14: c " + sheet, x, before, x.product(sheet, 11, 11), BAD);
            refused("14: a " + sheet, x, before, x.product(7, sheet, 11), BAD);
            refused("14: b " + sheet, x, before, x.product(7, 11, sheet), BAD);
        }
        productTooMuch();
    }

    private static void productTooMuch() {
        MeetHouse x = with(0, 10000, 1, 1, 10000);
        put(x, 1, 10000, 1, -1, 10000);
        put(x, 2, 20000, 1, 1, 0);
        put(x, 3, 20000, 1, -1, 0);
        CHECK.due("14: one cancels", x.product(4, 0, 1), 2);
        has("14: one cancels", x, 4, -1, 20000, 100000000, 2);
        long before = x.digest();
        refused("14: GREAT at one place", x, before, x.product(4, 2, 3), GREAT);
        put(x, 5, 20000, 44000, 10000, 4400, 10000, 440);
        put(x, 6, 10000, 444, -5000, 40044, -5000, 44004);
        CHECK.due("14: great on the way alone", x.product(7, 5, 6), 7);
        CHECK.due("14: great on the way alone", x.number(7, 44444), 100000000);
        MeetHouse y = full();
        put(y, 0, 1, 4, 1, 0);
        put(y, 1, 1, 0);
        before = y.digest();
        refused("14: 1200 terms", y, before, y.product(2, 9, 0), LONG);
        refused("14: 600 terms", y, before, y.product(9, 9, 1), 600);
        y.add(9, 1, 40);
        put(y, 0, 100000000, 4, 1, 0);
        before = y.digest();
        refused("14: GREAT ahead of LONG", y, before, y.product(2, 9, 0), GREAT);
        put(y, 0, 100000000, 4, 1, 50000);
        before = y.digest();
        refused("14: HIGH ahead of GREAT", y, before, y.product(2, 9, 0), HIGH);
    }

    private static void turned() {
        MeetHouse x = with(0, 1, 12345, 2, 12300, 3, 50000, 4, 0);
        int[][] due = {{}, {1, 21345, 2, 21300, 3, 5000, 4, 0}, {3, 50000, 1, 13245, 2, 13200, 4, 0},
            {3, 50000, 1, 12435, 2, 12030, 4, 0}, {3, 50000, 1, 12354, 2, 12300, 4, 0}};
        for (int i = 1; i <= 4; i++) {
            CHECK.due("15: turned(1, 0, " + i + ")", x.turned(1, 0, i), 4);
            has("15: turned(1, 0, " + i + ")", x, 1, due[i]);
            CHECK.due("15: back", x.turned(1, 1, i), 4);
            CHECK.due("15: as it was", x.same(0, 1), 1);
        }
        long before = x.digest();
        refused("15: LOST", x, before, x.turned(1, 2, 1), NULL);
        for (int i : new int[] {Integer.MIN_VALUE, -1, 0, 5, Integer.MAX_VALUE}) {
            refused("15: i " + i, x, before, x.turned(1, 2, i), BAD);
        }
        for (int sheet : NO_SHEETS) {
            refused("15: c " + sheet, x, before, x.turned(sheet, 2, 1), BAD);
            refused("15: a " + sheet, x, before, x.turned(1, sheet, 1), BAD);
        }
        x.blank(2);
        CHECK.due("15: without terms", x.turned(3, 2, 1), 0);
    }

    private static void difference() {
        MeetHouse x = with(0, 5, 31000, 1, 22000, 7, 400);
        CHECK.due("16: by 1", x.difference(1, 0, 1), 2);
        has("16: by 1", x, 1, 5, 21000, 5, 12000);
        CHECK.due("16: by 2", x.difference(1, 0, 2), 7);
        has("16: by 2", x, 1, 5, 30000, 1, 21000, 1, 20100, -7, 3000, -7, 2100, -7, 1200, -7, 300);
        CHECK.due("16: by 3", x.difference(1, 0, 3), 4);
        has("16: by 3", x, 1, 7, 300, 7, 210, 7, 120, 7, 30);
        CHECK.due("16: by 4", x.difference(1, 0, 4), 0);
        CHECK.due("16: in place", x.difference(0, 0, 1), 2);
        CHECK.due("16: twice is nothing", x.difference(0, 0, 1), 0);
        put(x, 2, 1, 8, -1, 3);
        CHECK.due("16: letter 5", x.difference(3, 2, 4), 11);
        has("16: letter 5", x, 3, -1, 70, -1, 61, -1, 52, -1, 43, -1, 34, -1, 25, 1, 20, -1, 16, 1, 11, -1, 7, 1, 2);
        long before = x.digest();
        refused("16: LOST", x, before, x.difference(1, 5, 1), NULL);
        for (int i : new int[] {Integer.MIN_VALUE, -1, 0, 5, Integer.MAX_VALUE}) {
            refused("16: i " + i, x, before, x.difference(1, 5, i), BAD);
        }
        for (int sheet : NO_SHEETS) {
            refused("16: c " + sheet, x, before, x.difference(sheet, 5, 1), BAD);
            refused("16: a " + sheet, x, before, x.difference(1, sheet, 1), BAD);
        }
    }

    private static void differenceTooMuch() {
        MeetHouse x = with(0, 100000000, 10000, -100000000, 1000);
        long before = x.digest();
        refused("16: GREAT", x, before, x.difference(0, 0, 1), GREAT);
        put(x, 0, 100000000, 10000);
        CHECK.due("16: great alone is not", x.difference(1, 0, 1), 1);
        put(x, 0, 100000000, 10000, 100000000, 1000);
        CHECK.due("16: nor where it cancels", x.difference(1, 0, 1), 0);
        MeetHouse y = wide();
        CHECK.due("16: terms", y.terms(5), 100);
        before = y.digest();
        refused("16: LONG", y, before, y.difference(6, 5, 4), LONG);
        y.add(5, 100000000, 10);
        y.add(5, -100000000, 1);
        before = y.digest();
        refused("16: GREAT ahead of LONG", y, before, y.difference(5, 5, 4), GREAT);
    }

    /** Sheet 5 has 100 terms, in each letter 4 with exponent 8: the difference by 4 would have 800. */
    private static MeetHouse wide() {
        MeetHouse x = hundred(5);
        put(x, 6, 1, 80);
        x.product(5, 5, 6);
        return x;
    }

    private static void polynomial() {
        MeetHouse x = new MeetHouse();
        int[][] due = {{1, 1, 0}, {12, 1, 0}, {21, 1, 10000}, {123, 1, 0}, {132, 1, 10000, 1, 1000}, {213, 1, 10000},
            {231, 1, 11000}, {312, 1, 20000}, {321, 1, 21000}, {1324, 1, 10000, 1, 1000},
            {1243, 1, 10000, 1, 1000, 1, 100}, {2143, 1, 20000, 1, 11000, 1, 10100}, {1432, 1, 21000, 1, 20100, 1, 12000,
                1, 11100, 1, 2100}, {12354, 1, 10000, 1, 1000, 1, 100, 1, 10}, {54321, 1, 43210}, {4321, 1, 32100},
            {1423, 1, 20000, 1, 11000, 1, 2000}, {23451, 1, 11110}, {51234, 1, 40000}};
        for (int[] row : due) {
            int[] terms = Arrays.copyOfRange(row, 1, row.length);
            CHECK.due("17: polynomial(4, " + row[0] + ")", x.polynomial(4, row[0]), terms.length / 2);
            has("17: polynomial(4, " + row[0] + ")", x, 4, terms);
        }
        long before = x.digest();
        for (int order : NO_ORDERS) {
            refused("17: order " + order, x, before, x.polynomial(4, order), BAD);
        }
        for (int sheet : NO_SHEETS) {
            refused("17: sheet " + sheet, x, before, x.polynomial(sheet, 21), BAD);
        }
        Reference reference = new Reference();
        x = new MeetHouse();
        for (int n = 1; n <= 5; n++) {
            for (int order : Reference.allOrders(n)) {
                CHECK.due("17: " + order, x.polynomial(4, order), reference.polynomial(4, order));
                CHECK.due("17: " + order, x.digest(), reference.digest());
            }
        }
    }

    private static void part() {
        MeetHouse x = new MeetHouse();
        x.polynomial(0, 132);
        x.product(1, 0, 0);
        int[][] due = {{1423, 1}, {231, 1}, {312, 0}, {2314, 1}, {23145, 1}, {132, 0}, {1, 0}, {54321, 0}};
        long before = x.digest();
        for (int[] row : due) {
            refused("18: part(1, " + row[0] + ")", x, before, x.part(1, row[0]), row[1]);
        }
        put(x, 2, -7, 0, 3, 10000, 100000000, 1);
        CHECK.due("18: of nothing above", x.part(2, 12345), -7);
        CHECK.due("18: by 21", x.part(2, 21), 3);
        CHECK.due("18: by 12354", x.part(2, 12354), -100000000);
        x.blank(3);
        CHECK.due("18: without terms", x.part(3, 54321), 0);
        for (int order : Reference.allOrders(4)) {
            MeetHouse y = new MeetHouse();
            y.polynomial(4, order);
            for (int other : Reference.allOrders(4)) {
                CHECK.due("18: the part of " + order + " by " + other, y.part(4, other), order == other ? 1 : 0);
            }
        }
        before = x.digest();
        refused("18: LOST", x, before, x.part(11, 21), NULL_LONG);
        for (int order : NO_ORDERS) {
            refused("18: order " + order, x, before, x.part(11, order), BAD_LONG);
        }
        for (int sheet : NO_SHEETS) {
            refused("18: sheet " + sheet, x, before, x.part(sheet, 21), BAD_LONG);
        }
    }

    private static void partOnTheWay() {
        MeetHouse x = with(0, 100000000, 10000, -100000000, 1000);
        long before = x.digest();
        refused("18: GREAT", x, before, x.part(0, 21), GREAT_LONG);
        refused("18: GREAT is not met by 132", x, before, x.part(0, 132), -100000000);
        refused("18: none of the way", x, before, x.part(0, 1), 0);
        MeetHouse y = wide();
        before = y.digest();
        refused("18: LONG", y, before, y.part(5, 12354), LONG_LONG);
        refused("18: LONG is not met by 21", y, before, y.part(5, 21), 0);
        y.add(5, 100000000, 10000);
        y.add(5, -100000000, 1000);
        before = y.digest();
        refused("18: GREAT comes first", y, before, y.part(5, 21354), GREAT_LONG);
        refused("18: LONG comes first", y, before, y.part(5, 12354), LONG_LONG);
        y = wide();
        for (int i : new int[] {3, 2, 1, 4, 3, 2}) {
            y.turned(5, 5, i);
        }
        CHECK.due("18: letter 4 became letter 1, letter 2 is free", y.exponents(5, 0), 80443);
        y.add(5, 100000000, 10);
        y.add(5, -100000000, 1);
        before = y.digest();
        refused("18: LONG comes first by 1", y, before, y.part(5, 21354), LONG_LONG);
        refused("18: GREAT comes first by 4", y, before, y.part(5, 12354), GREAT_LONG);
    }

    private static void constant() {
        MeetHouse x = with(0, 5, 1);
        long before = x.digest();
        int[][] due = {{132, 132, 1423, 1}, {132, 132, 231, 1}, {132, 213, 231, 1}, {132, 213, 312, 1},
            {213, 213, 312, 1}, {213, 213, 231, 0}, {2143, 2143, 2413, 0}, {2143, 2143, 4123, 0}, {1, 1, 1, 1},
            {1, 54321, 54321, 1}, {21, 1, 21, 1}, {21, 21, 21, 0}, {2143, 1324, 2413, 1}, {2143, 1324, 3142, 1},
            {54321, 54321, 54321, 0}, {1, 12, 12345, 1}};
        for (int[] row : due) {
            String told = "19: constant(" + row[0] + ", " + row[1] + ", " + row[2] + ")";
            refused(told, x, before, x.constant(row[0], row[1], row[2]), row[3]);
        }
        for (int order : NO_ORDERS) {
            refused("19: u " + order, x, before, x.constant(order, 1, 1), BAD_LONG);
            refused("19: v " + order, x, before, x.constant(1, order, 1), BAD_LONG);
            refused("19: w " + order, x, before, x.constant(1, 1, order), BAD_LONG);
        }
        Reference reference = new Reference();
        for (int u : Reference.allOrders(4)) {
            for (int v : Reference.allOrders(4)) {
                x = new MeetHouse();
                for (int w : Reference.allOrders(4)) {
                    if (x.length(u) + x.length(v) <= x.length(w) + 1) {
                        CHECK.due("19: " + u + ", " + v + ", " + w, x.constant(u, v, w), reference.constant(u, v, w));
                    }
                }
            }
        }
    }

    private static void same() {
        MeetHouse x = with(0, 1, 10000, 2, 1000);
        put(x, 1, 2, 1000, 1, 10000);
        put(x, 2, 2, 1000, 2, 10000);
        put(x, 3, 2, 1000, 1, 100);
        put(x, 4, 1, 10000);
        put(x, 5, 1, 10000, 2, 1000, 3, 100);
        x.blank(6);
        x.blank(7);
        int[][] due = {{0, 1, 1}, {0, 0, 1}, {0, 2, 0}, {0, 3, 0}, {0, 4, 0}, {0, 5, 0}, {5, 0, 0}, {6, 7, 1},
            {6, 0, 0}, {0, 6, 0}, {0, 11, NULL}, {11, 0, NULL}, {11, 11, NULL}};
        for (int[] row : due) {
            CHECK.due("20: same(" + row[0] + ", " + row[1] + ")", x.same(row[0], row[1]), row[2]);
        }
        for (int sheet : NO_SHEETS) {
            CHECK.due("20: same(" + sheet + ", 11)", x.same(sheet, 11), BAD);
            CHECK.due("20: same(11, " + sheet + ")", x.same(11, sheet), BAD);
        }
    }
}
