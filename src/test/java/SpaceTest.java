import java.util.List;

/** Promises 27 to 34: lines of space, and what tells of the whole house. */
public final class SpaceTest {
    private static final int BAD = -2, NULL = -3;
    private static final int[] NO_RODS = {Integer.MIN_VALUE, -1, 8, 9, Integer.MAX_VALUE};
    private static final int[] NO_BITS = {Integer.MIN_VALUE, -1, 256, 257, 512, Integer.MAX_VALUE};
    private static final Check CHECK = new Check("SpaceTest");

    public static void main(String[] args) {
        field();
        rod();
        rodsOfAllPoints();
        drop();
        meet();
        linesAndPoints();
        count();
        digest();
        CHECK.end();
    }

    private static void field() {
        MeetHouse x = new MeetHouse();
        CHECK.due("27: what it was", x.field(3), 2);
        CHECK.due("27: a figure below 3", x.rod(7, 1000, 2), 1);
        for (int q : new int[] {Integer.MIN_VALUE, -2, -1, 0, 1, 4, 6, 7, 8, 9, 25, Integer.MAX_VALUE}) {
            CHECK.due("27: field(" + q + ")", x.field(q), BAD);
        }
        CHECK.due("27: the rod is there yet", x.meet(7, 7), 2);
        CHECK.due("27: the same again", x.field(3), 3);
        CHECK.due("27: the rod is missing", x.meet(7, 7), NULL);
        CHECK.due("27: 5", x.field(5), 3);
        CHECK.due("27: a figure below 5", x.rod(0, 1000, 4), 1);
        CHECK.due("27: back to 2", x.field(2), 5);
        CHECK.due("27: no rod", x.count(5), 0);
        CHECK.due("27: q", x.count(4), 2);
    }

    private static void rod() {
        MeetHouse x = new MeetHouse();
        for (int q : new int[] {2, 3, 5}) {
            x.field(q);
            for (int rod = 0; rod < 8; rod++) {
                CHECK.due("28: rod " + rod, x.rod(rod, 1, 10), 1);
                CHECK.due("28: how many", x.count(5), rod + 1);
            }
            CHECK.due("28: another line", x.rod(7, 1000, 100), 1);
            CHECK.due("28: it is another", x.meet(0, 7), 0);
            CHECK.due("28: how many", x.count(5), 8);
            for (int point : new int[] {Integer.MIN_VALUE, -1000, -1, 0, q, q * 10, q * 100, q * 1000, 1000 * (q - 1) + q,
                10000, 10001, 11111, 9, 9999, Integer.MAX_VALUE}) {
                CHECK.due("28: a " + point, x.rod(7, point, 1), BAD);
                CHECK.due("28: b " + point, x.rod(7, 1, point), BAD);
            }
            for (int factor = 1; factor < q; factor++) {
                CHECK.due("28: one point twice", x.rod(7, 101 * factor, 101), BAD);
                CHECK.due("28: one point twice", x.rod(7, 11, 11 * factor), BAD);
            }
            for (int rod : NO_RODS) {
                CHECK.due("28: rod " + rod, x.rod(rod, 1, 10), BAD);
            }
            CHECK.due("28: nothing changed", x.meet(0, 7), 0);
        }
        x.field(5);
        CHECK.due("28: multiples by the rests", x.rod(0, 1342, 2134), BAD);
        CHECK.due("28: no multiples", x.rod(0, 1342, 3142), 1);
        x.field(3);
        CHECK.due("28: multiples by the rests", x.rod(0, 1202, 2101), BAD);
    }

    /** Of every two points: the line is one of all lines, and has the points that it has. */
    private static void rodsOfAllPoints() {
        for (int q : new int[] {2, 3}) {
            List<Integer> points = Reference.allPoints(q);
            for (int a : points) {
                for (int b : points) {
                    MeetHouse x = new MeetHouse();
                    x.field(q);
                    CHECK.due("28: rod(0, " + a + ", " + b + ")", x.rod(0, a, b), a == b ? BAD : 1);
                    if (a != b) {
                        for (int c : points) {
                            if (c != a) {
                                x.rod(1, a, c);
                                boolean isOn = Reference.line(q, a, b).contains(c);
                                CHECK.due("28: " + a + ", " + b + ", " + c, x.meet(0, 1), isOn ? 2 : 1);
                            }
                        }
                    }
                }
            }
        }
    }

    private static void drop() {
        MeetHouse x = new MeetHouse();
        CHECK.due("29: missing", x.drop(0), NULL);
        x.rod(0, 1, 10);
        x.rod(7, 1, 10);
        for (int rod : NO_RODS) {
            CHECK.due("29: drop(" + rod + ")", x.drop(rod), BAD);
        }
        CHECK.due("29: both are there", x.count(5), 2);
        CHECK.due("29: drop(7)", x.drop(7), 1);
        CHECK.due("29: one is there", x.count(5), 1);
        CHECK.due("29: it is rod 0", x.meet(0, 0), 2);
        CHECK.due("29: drop(7) again", x.drop(7), NULL);
        CHECK.due("29: drop(0)", x.drop(0), 1);
        CHECK.due("29: and put again", x.rod(0, 1, 10), 1);
    }

    private static void meet() {
        MeetHouse x = new MeetHouse();
        x.field(5);
        x.rod(0, 1000, 100);
        x.rod(1, 10, 1);
        x.rod(2, 1400, 3400);
        x.rod(3, 1234, 100);
        x.rod(4, 1230, 4);
        x.rod(5, 1204, 30);
        int[][] due = {{0, 1, 0}, {0, 2, 2}, {0, 3, 1}, {1, 3, 0}, {3, 4, 1}, {3, 5, 1}, {4, 5, 1}, {0, 4, 0},
            {1, 4, 1}, {0, 0, 2}, {0, 6, NULL}, {6, 0, NULL}, {6, 6, NULL}, {6, 7, NULL}};
        for (int[] row : due) {
            CHECK.due("30: meet(" + row[0] + ", " + row[1] + ")", x.meet(row[0], row[1]), row[2]);
            CHECK.due("30: meet(" + row[1] + ", " + row[0] + ")", x.meet(row[1], row[0]), row[2]);
        }
        for (int rod : NO_RODS) {
            CHECK.due("30: meet(" + rod + ", 6)", x.meet(rod, 6), BAD);
            CHECK.due("30: meet(6, " + rod + ")", x.meet(6, rod), BAD);
        }
    }

    private static void linesAndPoints() {
        MeetHouse x = new MeetHouse();
        int[][] due = {{2, 35, 19, 9}, {3, 130, 49, 16}, {5, 806, 181, 36}};
        for (int[] row : due) {
            int q = row[0];
            x.field(q);
            CHECK.due("31: all, q " + q, x.lines(0), row[1]);
            CHECK.due("32: none, q " + q, x.points(0), 0);
            x.rod(0, 1000, 100);
            CHECK.due("31: one rod, q " + q, x.lines(1), row[2]);
            CHECK.due("32: one rod, q " + q, x.points(1), q + 1);
            x.rod(1, 10, 1);
            CHECK.due("31: two rods apart, q " + q, x.lines(3), row[3]);
            CHECK.due("32: two rods apart, q " + q, x.points(3), 2 * (q + 1));
            x.rod(2, 1010, 101);
            CHECK.due("31: three rods apart, q " + q, x.lines(7), q + 1);
            CHECK.due("32: three rods apart, q " + q, x.points(7), 3 * (q + 1));
            x.rod(7, 1, 1000);
            CHECK.due("31: two rods that meet, q " + q, x.lines(129), q * q + q + 1 + q * q);
            CHECK.due("32: two rods that meet, q " + q, x.points(129), 2 * q + 1);
            CHECK.due("31: the other rod alone, q " + q, x.lines(128), row[2]);
            x.rod(6, 1, 1000);
            CHECK.due("31: one line twice, q " + q, x.lines(192), row[2]);
            CHECK.due("32: one line twice, q " + q, x.points(192), q + 1);
            for (int missing : new int[] {8, 16, 32, 9, 255, 199 + 8}) {
                CHECK.due("31: lines(" + missing + ")", x.lines(missing), NULL);
                CHECK.due("32: points(" + missing + ")", x.points(missing), NULL);
            }
            for (int bits : NO_BITS) {
                CHECK.due("31: lines(" + bits + ")", x.lines(bits), BAD);
                CHECK.due("32: points(" + bits + ")", x.points(bits), BAD);
            }
        }
    }

    private static void count() {
        MeetHouse x = new MeetHouse();
        x.blank(0);
        x.blank(11);
        x.polynomial(5, 21);
        x.begin(3, 4);
        x.condition(432);
        x.condition(0);
        x.condition(0);
        x.condition(0);
        x.condition(0);
        x.field(5);
        x.rod(0, 1, 10);
        x.rod(7, 1, 10);
        x.rod(3, 1, 10);
        x.rod(4, 1, 10);
        x.rod(5, 1, 10);
        x.rod(6, 1, 10);
        int[] due = {3, 5, 3, 4, 5, 6};
        for (int what = 0; what < due.length; what++) {
            CHECK.due("33: count(" + what + ")", x.count(what), due[what]);
        }
        for (int what : new int[] {Integer.MIN_VALUE, -1, 6, 7, Integer.MAX_VALUE}) {
            CHECK.due("33: count(" + what + ")", x.count(what), BAD);
        }
        x.lose(11);
        CHECK.due("33: a sheet less", x.count(0), 2);
    }

    private static long digestOf(long... all) {
        long h = 17;
        for (long each : all) {
            h = 31 * h + each;
        }
        return h;
    }

    private static void digest() {
        MeetHouse x = new MeetHouse();
        CHECK.due("34: new", x.digest(), digestOf(0, 0, 2, 2, 2, 0));
        x.blank(11);
        x.blank(3);
        x.add(3, -100000000, 88888);
        x.add(3, 7, 10);
        x.polynomial(0, 132);
        CHECK.due("34: sheets", x.digest(),
                digestOf(3, 0, 2, 2, 2, 0, 0, 2, 10000, 1, 1000, 1, 3, 2, 88888, -100000000, 10, 7, 11, 0));
        x.lose(0);
        x.begin(2, 3);
        x.condition(31);
        x.condition(0);
        x.condition(20);
        x.field(3);
        x.rod(4, 1, 10);
        CHECK.due("34: all", x.digest(),
                digestOf(2, 3, 2, 3, 3, 1, 3, 2, 88888, -100000000, 10, 7, 11, 0, 31, 0, 20));
        CHECK.due("34: again", x.digest(), x.digest());
        x.rod(4, 1, 100);
        CHECK.due("34: another line alone is not told", x.digest(),
                digestOf(2, 3, 2, 3, 3, 1, 3, 2, 88888, -100000000, 10, 7, 11, 0, 31, 0, 20));
    }
}
