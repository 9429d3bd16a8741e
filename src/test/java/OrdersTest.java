/** Promises 1 to 6: a new object, and the calls on orders. */
public final class OrdersTest {
    private static final int NONE = -1, BAD = -2, NULL = -3;
    private static final Check CHECK = new Check("OrdersTest");
    private static final int[] NO_ORDERS = {Integer.MIN_VALUE, -21, -1, 0, 2, 10, 11, 13, 20, 22, 121, 124, 102, 1023,
        1223, 12344, 12346, 54320, 54322, 60000, 123456, 654321, Integer.MAX_VALUE};

    public static void main(String[] args) {
        newObject();
        length();
        exchange();
        inverse();
        orders();
        step();
        CHECK.end();
    }

    private static void newObject() {
        MeetHouse x = new MeetHouse();
        int[] counts = {0, 0, 2, 2, 2, 0};
        long h = 17;
        for (int what = 0; what < counts.length; what++) {
            CHECK.due("1: count(" + what + ")", x.count(what), counts[what]);
            h = 31 * h + counts[what];
        }
        CHECK.due("1: digest()", x.digest(), h);
        for (int sheet = 0; sheet < 12; sheet++) {
            CHECK.due("1: terms(" + sheet + ")", x.terms(sheet), NULL);
        }
        for (int rod = 0; rod < 8; rod++) {
            CHECK.due("1: meet(" + rod + ")", x.meet(rod, rod), NULL);
            CHECK.due("1: drop(" + rod + ")", x.drop(rod), NULL);
        }
        CHECK.due("1: lines(0)", x.lines(0), 35);
        CHECK.due("1: condition(30), 2 columns", x.condition(30), BAD);
        CHECK.due("1: condition(111), 2 rows", x.condition(111), BAD);
        CHECK.due("1: condition(22)", x.condition(22), 1);
        CHECK.due("1: field(2)", x.field(2), 2);
        CHECK.due("1: another object is its own", new MeetHouse().count(1), 0);
    }

    private static void length() {
        MeetHouse x = new MeetHouse();
        int[][] due = {{1, 0}, {12, 0}, {21, 1}, {123, 0}, {132, 1}, {312, 2}, {321, 3}, {2143, 2}, {2413, 3},
            {4321, 6}, {12345, 0}, {54321, 10}, {51234, 4}, {23451, 4}, {45123, 6}};
        for (int[] row : due) {
            CHECK.due("2: length(" + row[0] + ")", x.length(row[0]), row[1]);
        }
        for (int order : NO_ORDERS) {
            CHECK.due("2: length(" + order + ")", x.length(order), BAD);
        }
    }

    private static void exchange() {
        MeetHouse x = new MeetHouse();
        int[][] due = {{2413, 1, 4213}, {2413, 2, 2143}, {2413, 3, 2431}, {2413, 4, BAD}, {2413, 0, BAD},
            {2413, -1, BAD}, {12, 1, 21}, {21, 1, 12}, {1, 1, BAD}, {1, 0, BAD}, {54321, 4, 54312}, {54321, 5, BAD},
            {12345, 1, 21345}, {12345, Integer.MAX_VALUE, BAD}, {12345, Integer.MIN_VALUE, BAD}};
        for (int[] row : due) {
            CHECK.due("3: exchange(" + row[0] + ", " + row[1] + ")", x.exchange(row[0], row[1]), row[2]);
        }
        for (int order : NO_ORDERS) {
            CHECK.due("3: exchange(" + order + ", 1)", x.exchange(order, 1), BAD);
        }
    }

    private static void inverse() {
        MeetHouse x = new MeetHouse();
        int[][] due = {{1, 1}, {21, 21}, {132, 132}, {231, 312}, {312, 231}, {2413, 3142}, {3142, 2413},
            {23451, 51234}, {51234, 23451}, {25134, 31452}, {54321, 54321}};
        for (int[] row : due) {
            CHECK.due("4: inverse(" + row[0] + ")", x.inverse(row[0]), row[1]);
        }
        for (int order : NO_ORDERS) {
            CHECK.due("4: inverse(" + order + ")", x.inverse(order), BAD);
        }
    }

    private static void orders() {
        MeetHouse x = new MeetHouse();
        int[][] due = {{}, {1}, {1, 1}, {1, 2, 2, 1}, {1, 3, 5, 6, 5, 3, 1}, {1, 4, 9, 15, 20, 22, 20, 15, 9, 4, 1}};
        for (int n = 1; n <= 5; n++) {
            for (int length = 0; length <= 12; length++) {
                CHECK.due("5: orders(" + n + ", " + length + ")", x.orders(n, length),
                        length < due[n].length ? due[n][length] : 0);
            }
            CHECK.due("5: orders(" + n + ", -1)", x.orders(n, -1), BAD);
            CHECK.due("5: a least length", x.orders(n, Integer.MIN_VALUE), BAD);
            CHECK.due("5: a greatest length", x.orders(n, Integer.MAX_VALUE), 0);
        }
        for (int n : new int[] {Integer.MIN_VALUE, -1, 0, 6, Integer.MAX_VALUE}) {
            CHECK.due("5: orders(" + n + ", 0)", x.orders(n, 0), BAD);
        }
    }

    private static void step() {
        MeetHouse x = new MeetHouse();
        int[][] due = {{132, 2, -1, NONE}, {132, 2, 0, 1423}, {132, 2, 1, 2314}, {132, 2, 2, NONE}, {1, 1, 0, 21},
            {1, 1, 1, NONE}, {1, 0, 0, BAD}, {1, 2, 0, BAD}, {21, 1, 0, 312}, {21, 1, 1, NONE}, {21, 2, 0, 231},
            {21, 2, 1, 312}, {21, 2, 2, NONE}, {321, 3, 0, 3241}, {321, 3, 1, 3412}, {321, 3, 2, 4213},
            {321, 3, 3, NONE}, {4321, 4, 0, 43251}, {4321, 4, 3, 53214}, {4321, 4, 4, NONE}, {4321, 5, 0, BAD},
            {4321, 0, 0, BAD}, {4321, -1, 0, BAD}, {1234, 2, 0, 13245}, {1234, 2, 1, NONE}, {1234, 4, 0, 12354},
            {132, 2, Integer.MAX_VALUE, NONE}, {132, 2, Integer.MIN_VALUE, NONE}, {54321, 1, 0, BAD},
            {12345, 1, 0, BAD}, {132, Integer.MAX_VALUE, 0, BAD}};
        for (int[] row : due) {
            CHECK.due("6: step(" + row[0] + ", " + row[1] + ", " + row[2] + ")", x.step(row[0], row[1], row[2]),
                    row[3]);
        }
        for (int order : NO_ORDERS) {
            CHECK.due("6: step(" + order + ", 1, 0)", x.step(order, 1, 0), BAD);
        }
        Reference reference = new Reference();
        for (int n = 1; n <= 4; n++) {
            for (int order : Reference.allOrders(n)) {
                x = new MeetHouse();
                for (int r = 1; r <= n; r++) {
                    for (int k = 0; k <= 6; k++) {
                        CHECK.due("6: step(" + order + ", " + r + ", " + k + ")", x.step(order, r, k),
                                reference.step(order, r, k));
                    }
                }
            }
        }
    }
}
