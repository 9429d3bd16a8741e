import java.util.LinkedHashMap;
import java.util.Map;
import java.util.function.ToLongFunction;

/** What the document says of ORDERS and of a new object, promises 1 to 6: calls on both sides of each boundary. */
final class OrderBoundaries {
    private static final int NONE = Houses.NONE, BAD = Houses.BAD, NULL = Houses.NULL;

    private final Sentences said;

    OrderBoundaries(Sentences said) {
        this.said = said;
    }

    void all() {
        rowsOfFigures();
        rowsOfFiguresInEachCall();
        calls512();
        length();
        exchangedAt();
        toldAsOneMore();
        newObject();
        promiseLength();
        promiseExchange();
        promiseInverse();
        promiseOrders();
        promiseStep();
    }

    private static boolean isOrder(int number) {
        String told = String.valueOf(number);
        if (number < 1 || told.length() > 5) {
            return false;
        }
        for (int figure = 1; figure <= told.length(); figure++) {
            if (told.indexOf('0' + figure) < 0) {
                return false;
            }
        }
        return true;
    }

    private void rowsOfFigures() {
        said.name("What it is", "ORDERS of n (1 to 5) are rows of 1 .. n, each once, told as decimal figures (2143).");
        MeetHouse x = new MeetHouse();
        int orders = 0;
        for (int number = -200; number <= 130000; number++) {
            if (number % 500 == 0) {
                x = new MeetHouse();
            }
            boolean isTaken = x.length(number) != BAD;
            orders += isTaken ? 1 : 0;
            if (isTaken != isOrder(number)) {
                said.due("length(" + number + ") takes it", isTaken ? 1 : 0, isOrder(number) ? 1 : 0);
            }
        }
        said.due("so many orders", orders, 1 + 2 + 6 + 24 + 120);
        for (int order : Houses.NO_ORDERS) {
            said.due("length(" + order + ")", x.length(order), BAD);
        }
    }

    private void rowsOfFiguresInEachCall() {
        said.name("What it is", "ORDERS of n (1 to 5) are rows of 1 .. n, each once");
        for (int order : Houses.ORDERS) {
            MeetHouse x = new MeetHouse();
            said.holds("inverse(" + order + ")", x.inverse(order) > 0);
            said.due("exchange(" + order + ", 1)", Math.min(x.exchange(order, 1), 1), order == 1 ? BAD : 1);
            said.due("step(" + order + ", 1, 0)", Math.min(x.step(order, 1, 0), 1), order > 4321 ? BAD : 1);
            said.holds("polynomial(0, " + order + ")", x.polynomial(0, order) > 0);
            said.due("part(0, " + order + ")", x.part(0, order), 1);
            said.due("constant(" + order + ", 1, " + order + ")", x.constant(order, 1, order), 1);
            said.due("constant(1, " + order + ", " + order + ")", x.constant(1, order, order), 1);
        }
        MeetHouse x = Houses.with(0, 1, 0);
        for (int order : Houses.NO_ORDERS) {
            said.due("inverse(" + order + ")", x.inverse(order), BAD);
            said.due("exchange(" + order + ", 1)", x.exchange(order, 1), BAD);
            said.due("step(" + order + ", 1, 0)", x.step(order, 1, 0), BAD);
            said.due("polynomial(0, " + order + ")", x.polynomial(0, order), BAD);
            said.due("part(0, " + order + ")", x.part(0, order), Houses.BAD_LONG);
            said.due("constant(" + order + ", 1, 1)", x.constant(order, 1, 1), Houses.BAD_LONG);
            said.due("constant(1, " + order + ", 1)", x.constant(1, order, 1), Houses.BAD_LONG);
            said.due("constant(1, 1, " + order + ")", x.constant(1, 1, order), Houses.BAD_LONG);
        }
    }

    /** Sheets 0 and 1, rods 0 and 1, four boxes of 2 rows, 2 columns: 8 calls, and those that add to sheet 1. */
    private MeetHouse worn(int adds) {
        MeetHouse x = new MeetHouse();
        said.due("polynomial(0, 132)", x.polynomial(0, 132), 2);
        said.due("blank(1)", x.blank(1), 1);
        said.due("rod(0, 1000, 100)", x.rod(0, 1000, 100), 1);
        said.due("rod(1, 10, 1)", x.rod(1, 10, 1), 1);
        for (int at = 1; at <= 4; at++) {
            said.due("condition(10)", x.condition(10), at);
        }
        for (int call = 1; call <= adds; call++) {
            said.due("add(1, 1, 11111), time " + call, x.add(1, 1, 11111), 1);
        }
        return x;
    }

    /** Each kind of call on a worn object, behind what it is to answer. */
    private static Map<String, ToLongFunction<MeetHouse>> calls(int adds) {
        Map<String, ToLongFunction<MeetHouse>> calls = new LinkedHashMap<>();
        calls.put("length(321) 3", x -> x.length(321));
        calls.put("exchange(321, 1) 231", x -> x.exchange(321, 1));
        calls.put("inverse(231) 312", x -> x.inverse(231));
        calls.put("orders(3, 1) 2", x -> x.orders(3, 1));
        calls.put("step(132, 2, 1) 2314", x -> x.step(132, 2, 1));
        calls.put("blank(0) 1", x -> x.blank(0));
        calls.put("lose(0) 2", x -> x.lose(0));
        calls.put("add(1, 1, 11111) 1", x -> x.add(1, 1, 11111));
        calls.put("terms(0) 2", x -> x.terms(0));
        calls.put("exponents(0, 1) 1000", x -> x.exponents(0, 1));
        calls.put("number(1, 11111) " + adds, x -> x.number(1, 11111));
        calls.put("sum(2, 0, 1, 1) 3", x -> x.sum(2, 0, 1, 1));
        calls.put("product(2, 0, 1) 2", x -> x.product(2, 0, 1));
        calls.put("turned(2, 0, 2) 2", x -> x.turned(2, 0, 2));
        calls.put("difference(2, 0, 2) 1", x -> x.difference(2, 0, 2));
        calls.put("polynomial(2, 321) 1", x -> x.polynomial(2, 321));
        calls.put("part(0, 132) 1", x -> x.part(0, 132));
        calls.put("constant(132, 132, 231) 1", x -> x.constant(132, 132, 231));
        calls.put("same(0, 0) 1", x -> x.same(0, 0));
        calls.put("strip(2, 3, 10, 2, 1) 30", x -> x.strip(2, 3, 10, 2, 1));
        calls.put("fillings(2, 2, 10, 10, 20) 1", x -> x.fillings(2, 2, 10, 10, 20));
        calls.put("orderOf(2, 2, 21) 2413", x -> x.orderOf(2, 2, 21));
        calls.put("begin(3, 3) 4", x -> x.begin(3, 3));
        calls.put("condition(10) 5", x -> x.condition(10));
        calls.put("meeting() 2", x -> x.meeting());
        calls.put("field(3) 2", x -> x.field(3));
        calls.put("rod(2, 1000, 1) 1", x -> x.rod(2, 1000, 1));
        calls.put("drop(0) 1", x -> x.drop(0));
        calls.put("meet(0, 1) 0", x -> x.meet(0, 1));
        calls.put("lines(3) 9", x -> x.lines(3));
        calls.put("points(3) 6", x -> x.points(3));
        calls.put("count(5) 2", x -> x.count(5));
        calls.put("digest() " + SpaceBoundaries.digestOf(2, 4, 2, 2, 2, 2, 0, 2, 10000, 1, 1000, 1, 1, 1, 11111, adds,
                10, 10, 10, 10), x -> x.digest());
        return calls;
    }

    private void calls512() {
        said.name("What it is",
                "An object is used for at most 512 calls after it has been made; what later calls answer is free.");
        Map<String, ToLongFunction<MeetHouse>> last = calls(503);
        said.due("kinds of calls", last.size(), 33);
        for (Map.Entry<String, ToLongFunction<MeetHouse>> call : last.entrySet()) {
            MeetHouse x = worn(503);
            said.due("the 512th call, " + told(call), call.getValue().applyAsLong(x), due(call));
        }
        for (Map.Entry<String, ToLongFunction<MeetHouse>> call : calls(1).entrySet()) {
            // these answer another thing when they are called again
            if (!told(call).matches("(lose|begin|condition|field|drop).*")) {
                MeetHouse x = worn(1);
                for (int time = 10; time <= 512; time++) {
                    said.due("call " + time + ", again " + told(call), call.getValue().applyAsLong(x), due(call));
                }
            }
        }
        fieldsAndLists512();
    }

    private static String told(Map.Entry<String, ToLongFunction<MeetHouse>> call) {
        return call.getKey().substring(0, call.getKey().lastIndexOf(' '));
    }

    private static long due(Map.Entry<String, ToLongFunction<MeetHouse>> call) {
        return Long.parseLong(call.getKey().substring(call.getKey().lastIndexOf(' ') + 1));
    }

    private void fieldsAndLists512() {
        MeetHouse x = new MeetHouse();
        MeetHouse y = new MeetHouse();
        MeetHouse z = new MeetHouse();
        MeetHouse w = new MeetHouse();
        for (int time = 1; time <= 256; time++) {
            said.due("field(5), time " + time, x.field(5), time == 1 ? 2 : 3);
            said.due("field(3), time " + time, x.field(3), 5);
            said.due("blank(7), time " + time, y.blank(7), 1);
            said.due("lose(7), time " + time, y.lose(7), 0);
            said.due("rod(7, 1, 10), time " + time, z.rod(7, 1, 10), 1);
            said.due("drop(7), time " + time, z.drop(7), 1);
            said.due("condition(10), time " + time, w.condition(10), (time - 1) % 16 + 1);
            said.due("begin or count, time " + time, time % 16 == 0 ? w.begin(2, 2) : w.count(1), (time - 1) % 16 + 1);
        }
    }

    private void length() {
        said.name("Terms", "LENGTH: how many pairs stand so that the greater one is ahead.");
        MeetHouse x = new MeetHouse();
        int[][] due = {{1, 0}, {12, 0}, {21, 1}, {12345, 0}, {21345, 1}, {12354, 1}, {23451, 4}, {51234, 4},
            {45321, 9}, {54312, 9}, {54321, 10}, {4321, 6}, {321, 3}};
        for (int[] row : due) {
            said.due("length(" + row[0] + ")", x.length(row[0]), row[1]);
        }
    }

    private void exchangedAt() {
        said.name("Terms", "EXCHANGED at i (1 .. n - 1): its i-th and (i + 1)-th figures change places.");
        MeetHouse x = new MeetHouse();
        int[][] due = {{1, BAD, BAD}, {21, 12, 12}, {123, 213, 132}, {2143, 1243, 2134}, {53124, 35124, 53142}};
        for (int n = 1; n <= 5; n++) {
            int order = due[n - 1][0];
            said.due("exchange(" + order + ", 0)", x.exchange(order, 0), BAD);
            said.due("exchange(" + order + ", 1)", x.exchange(order, 1), due[n - 1][1]);
            said.due("exchange(" + order + ", n - 1)", x.exchange(order, n - 1), due[n - 1][2]);
            said.due("exchange(" + order + ", n)", x.exchange(order, n), BAD);
        }
    }

    private void toldAsOneMore() {
        said.name("Terms", "An ORDER of n is also told as one of n + 1, with n + 1 behind it.");
        int[][] rows = {{1, 12, 123, 1234, 12345}, {21, 213, 2134, 21345}, {132, 1324, 13245}, {312, 3124, 31245},
            {1432, 14325}, {4321, 43215}};
        for (int[] row : rows) {
            MeetHouse x = new MeetHouse();
            int terms = x.polynomial(0, row[0]);
            for (int order : row) {
                said.due("length(" + order + ")", x.length(order), x.length(row[0]));
                said.due("polynomial(1, " + order + ")", x.polynomial(1, order), terms);
                said.due("it is that of " + row[0], x.same(0, 1), 1);
                said.due("part(0, " + order + ")", x.part(0, order), 1);
                said.due("constant(" + row[0] + ", 1, " + order + ")", x.constant(row[0], 1, order), 1);
                said.due("constant(" + order + ", 12345, " + row[0] + ")", x.constant(order, 12345, row[0]), 1);
            }
        }
    }

    private void newObject() {
        MeetHouse x = new MeetHouse();
        said.name(1, "All SHEETS are LOST");
        said.due("count(0)", x.count(0), 0);
        for (int sheet = 0; sheet <= 11; sheet++) {
            said.due("terms(" + sheet + ")", x.terms(sheet), NULL);
        }
        said.due("blank(11)", x.blank(11), 1);
        said.due("terms(11), not LOST", x.terms(11), 0);
        said.due("terms(10)", x.terms(10), NULL);
        said.name(1, "all RODS missing");
        said.due("count(5)", x.count(5), 0);
        for (int rod = 0; rod <= 7; rod++) {
            said.due("meet(" + rod + ", " + rod + ")", x.meet(rod, rod), NULL);
            said.due("lines of rod " + rod, x.lines(1 << rod), NULL);
        }
        said.due("rod(7, 1, 10)", x.rod(7, 1, 10), 1);
        said.due("meet(7, 7), not missing", x.meet(7, 7), 2);
        said.due("meet(6, 6)", x.meet(6, 6), NULL);
        said.name(1, "THE LIST of 2 rows, 2 columns is empty");
        said.due("count(1)", x.count(1), 0);
        said.due("count(2)", x.count(2), 2);
        said.due("count(3)", x.count(3), 2);
        said.due("meeting()", x.meeting(), 0);
        said.due("condition(30)", x.condition(30), BAD);
        said.due("condition(220)", x.condition(220), BAD);
        said.due("condition(22)", x.condition(22), 1);
        said.due("meeting()", x.meeting(), 1);
        said.due("begin(2, 2)", new MeetHouse().begin(2, 2), 0);
        said.name(1, "q is 2.");
        said.due("count(4)", x.count(4), 2);
        said.due("rod(0, 1111, 1)", x.rod(0, 1111, 1), 1);
        said.due("rod(0, 1112, 1)", x.rod(0, 1112, 1), BAD);
        said.due("lines(0)", x.lines(0), 35);
        said.due("field(2)", x.field(2), 2);
    }

    private void promiseLength() {
        said.name(2, "LENGTH of an ORDER. BAD.");
        MeetHouse x = new MeetHouse();
        int[][] due = {{0, BAD}, {1, 0}, {2, BAD}, {11, BAD}, {12, 0}, {13, BAD}, {21, 1}, {22, BAD}, {320, BAD},
            {321, 3}, {322, BAD}, {1234, 0}, {1233, BAD}, {4321, 6}, {4322, BAD}, {12344, BAD}, {12345, 0},
            {12346, BAD}, {54320, BAD}, {54321, 10}, {54322, BAD}, {123456, BAD}, {-1, BAD}, {-12, BAD}};
        for (int[] row : due) {
            said.due("length(" + row[0] + ")", x.length(row[0]), row[1]);
        }
    }

    private void promiseExchange() {
        said.name(3, "EXCHANGED at i. BAD.");
        MeetHouse x = new MeetHouse();
        int[] due = {BAD, 13245, 32145, 31425, 31254, BAD};
        for (int i = 0; i < due.length; i++) {
            said.due("exchange(31245, " + i + ")", x.exchange(31245, i), due[i]);
        }
        for (int i : new int[] {Integer.MIN_VALUE, -1, 6, 9, Integer.MAX_VALUE}) {
            said.due("exchange(31245, " + i + ")", x.exchange(31245, i), BAD);
        }
        said.due("exchange(31246, 1)", x.exchange(31246, 1), BAD);
        said.due("exchange(1, 1)", x.exchange(1, 1), BAD);
        said.due("exchange(12, 1)", x.exchange(12, 1), 21);
        said.due("exchange(12, 2)", x.exchange(12, 2), BAD);
    }

    private void promiseInverse() {
        said.name(4, "The one whose place a has figure b, where this one's place b has figure a. BAD.");
        MeetHouse x = new MeetHouse();
        int[][] due = {{0, BAD}, {1, 1}, {2, BAD}, {12, 12}, {21, 21}, {231, 312}, {312, 231}, {2341, 4123},
            {2342, BAD}, {23451, 51234}, {51234, 23451}, {24153, 31524}, {54321, 54321}, {54322, BAD}, {65432, BAD},
            {234561, BAD}, {-1, BAD}};
        for (int[] row : due) {
            said.due("inverse(" + row[0] + ")", x.inverse(row[0]), row[1]);
        }
    }

    private void promiseOrders() {
        int[][] many = {{1}, {1, 1}, {1, 2, 2, 1}, {1, 3, 5, 6, 5, 3, 1}, {1, 4, 9, 15, 20, 22, 20, 15, 9, 4, 1}};
        MeetHouse x = new MeetHouse();
        said.name(5, "How many ORDERS of n have a LENGTH (0 and more).");
        for (int n = 1; n <= 5; n++) {
            for (int length = 0; length < many[n - 1].length; length++) {
                said.due("orders(" + n + ", " + length + ")", x.orders(n, length), many[n - 1][length]);
            }
            for (int length : new int[] {many[n - 1].length, 11, 100, Integer.MAX_VALUE}) {
                said.due("orders(" + n + ", " + length + ")", x.orders(n, length), 0);
            }
        }
        said.name(5, "BAD: n, below 0.");
        for (int n : new int[] {Integer.MIN_VALUE, -1, 0, 6, 7, Integer.MAX_VALUE}) {
            said.due("orders(" + n + ", 0)", x.orders(n, 0), BAD);
        }
        for (int n = 1; n <= 5; n++) {
            said.due("orders(" + n + ", -1)", x.orders(n, -1), BAD);
            said.due("orders(" + n + ", least)", x.orders(n, Integer.MIN_VALUE), BAD);
            said.due("orders(" + n + ", 0)", x.orders(n, 0), 1);
        }
    }

    private void promiseStep() {
        MeetHouse x = new MeetHouse();
        said.name(6, "The k-th (from 0), by rising numbers, of the ORDERS of n + 1");
        steps(x, 4321, 4, 43251, 43512, 45213, 53214);
        steps(x, 132, 2, 1423, 2314);
        said.name(6, "(n at most 4: of n figures)");
        steps(x, 1, 1, 21);
        steps(x, 1234, 4, 12354);
        said.due("step(12345, 4, 0)", x.step(12345, 4, 0), BAD);
        said.name(6, "that come of this one (as one of n + 1) by exchanging its figures at places a and b,"
                + " a at most r, b above r,");
        steps(x, 132, 1, 2314, 3124);
        steps(x, 132, 3, 1342, 1423);
        steps(x, 4321, 1, 53214);
        steps(x, 4321, 2, 45213, 53214);
        steps(x, 21, 1, 312);
        steps(x, 21, 2, 231, 312);
        said.name(6, "with LENGTH greater by 1.");
        steps(x, 123, 1, 2134);
        steps(x, 123, 2, 1324);
        steps(x, 12, 2, 132);
        steps(x, 321, 3, 3241, 3412, 4213);
        said.name(6, "BAD: the ORDER, one of 5, r (1 .. n);");
        int[] firsts = {1, 12, 123, 1234};
        for (int n = 1; n <= 4; n++) {
            int order = firsts[n - 1];
            for (int r : new int[] {Integer.MIN_VALUE, -1, 0, n + 1, n + 2, Integer.MAX_VALUE}) {
                said.due("step(" + order + ", " + r + ", 0)", x.step(order, r, 0), BAD);
            }
            said.holds("step(" + order + ", 1, 0)", x.step(order, 1, 0) > order);
            said.holds("step(" + order + ", n, 0)", x.step(order, n, 0) > order);
        }
        for (int order : new int[] {0, 2, 11, 4322, 12344, 12345, 54321, 54322, 123456}) {
            said.due("step(" + order + ", 1, 0)", x.step(order, 1, 0), BAD);
            said.due("step(" + order + ", 1, -1), BAD ahead of NONE", x.step(order, 1, -1), BAD);
        }
        said.name(6, "NONE: there is none such.");
        for (int k : new int[] {Integer.MIN_VALUE, -1, 2, 3, 9, 10, Integer.MAX_VALUE}) {
            said.due("step(132, 2, " + k + ")", x.step(132, 2, k), NONE);
        }
        said.due("step(132, 2, 1)", x.step(132, 2, 1), 2314);
    }

    /** Just these, from the 0th on. */
    private void steps(MeetHouse x, int order, int r, int... due) {
        said.due("step(" + order + ", " + r + ", -1)", x.step(order, r, -1), NONE);
        for (int k = 0; k < due.length; k++) {
            said.due("step(" + order + ", " + r + ", " + k + ")", x.step(order, r, k), due[k]);
        }
        said.due("step(" + order + ", " + r + ", " + due.length + ")", x.step(order, r, due.length), NONE);
    }
}
