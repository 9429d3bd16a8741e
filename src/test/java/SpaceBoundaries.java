import java.math.BigInteger;
import java.util.ArrayList;
import java.util.Arrays;
import java.util.Collections;
import java.util.LinkedHashMap;
import java.util.List;
import java.util.Map;
import java.util.Set;
import java.util.TreeSet;

/** What the document says of SPACE, and promises 27 to 34: calls on both sides of each boundary. */
final class SpaceBoundaries {
    private static final int BAD = Houses.BAD, NULL = Houses.NULL, MOST = Houses.MOST;
    private static final int[] FIELDS = {2, 3, 5};
    private static final int[] NO_BITS = {Integer.MIN_VALUE, -256, -1, 256, 257, 511, 512, Integer.MAX_VALUE};

    private final Sentences said;

    SpaceBoundaries(Sentences said) {
        this.said = said;
    }

    void all() {
        fields();
        points();
        multiples();
        lineThroughTwo();
        rods();
        linesThatMeet();
        linesThatMeetByTheirPoints();
        field();
        rod();
        rodRefused();
        drop();
        meet();
        lines();
        linesRefused();
        pointsOnRods();
        pointsRefused();
        count();
        countRefused();
        digest();
        digestOfWhatIsThere();
        digestThatWraps();
    }

    private static MeetHouse over(int q) {
        MeetHouse x = new MeetHouse();
        x.field(q);
        return x;
    }

    private void fields() {
        said.name("Terms", "SPACE over a FIELD of q (2, 3, 5): rests by q.");
        int[][] due = {{2, 35, 3}, {3, 130, 4}, {5, 806, 6}};
        for (int[] row : due) {
            MeetHouse x = over(row[0]);
            said.due("lines(0), q " + row[0], x.lines(0), row[1]);
            said.due("rod(0, 1, 10)", x.rod(0, 1, 10), 1);
            said.due("points(1), q " + row[0], x.points(1), row[2]);
        }
        for (int q : new int[] {-1, 0, 1, 4, 6, 7, 9}) {
            said.due("field(" + q + ")", over(2).field(q), BAD);
        }
    }

    private static boolean isPoint(int q, int number) {
        return number > 0 && number < 10000 && String.valueOf(number).chars().allMatch(figure -> figure - '0' < q);
    }

    private void points() {
        said.name("Terms", "A POINT: four rests, told as four figures below q, not all 0");
        for (int q : FIELDS) {
            MeetHouse x = over(q);
            int found = 0;
            for (int number = -5; number <= 11115; number++) {
                x = number % 200 == 0 ? over(q) : x;
                boolean isTaken = x.rod(0, number, 1) == 1;
                found += isTaken ? 1 : 0;
                if (isTaken != (isPoint(q, number) && number >= 10) || isTaken != (x.rod(1, 1, number) == 1)) {
                    said.due("a point over " + q + ": " + number, isTaken ? 1 : 0, isTaken ? 0 : 1);
                }
            }
            said.due("points beside 1 over " + q, found, (int) Math.pow(q, 4) - q);
        }
    }

    private void multiples() {
        said.name("Terms", "(those that are each other's multiples are one).");
        int[][] due = {{2, 1, 1, BAD}, {2, 1, 11, 1}, {2, 1111, 1111, BAD}, {3, 1, 2, BAD}, {3, 1000, 2000, BAD},
            {3, 1202, 2101, BAD}, {3, 1202, 2102, 1}, {3, 1202, 1202, BAD}, {5, 1234, 2413, BAD}, {5, 1234, 3142, BAD},
            {5, 1234, 4321, BAD}, {5, 1234, 1234, BAD}, {5, 1234, 4322, 1}, {5, 1234, 2414, 1}, {5, 1, 4, BAD},
            {5, 10, 4, 1}, {5, 4000, 1, 1}, {5, 4004, 1001, BAD}, {5, 4004, 1004, 1}};
        for (int[] row : due) {
            MeetHouse x = over(row[0]);
            said.due("over " + row[0] + ": rod(0, " + row[1] + ", " + row[2] + ")", x.rod(0, row[1], row[2]), row[3]);
            said.due("over " + row[0] + ": rod(1, " + row[2] + ", " + row[1] + ")", x.rod(1, row[2], row[1]), row[3]);
            said.due("count(5)", x.count(5), row[3] == BAD ? 0 : 2);
        }
        MeetHouse x = over(5);
        x.rod(0, 1234, 1000);
        for (int point : new int[] {1234, 2413, 3142, 4321}) {
            for (int other = 1000; other <= 4000; other += 1000) {
                said.due("rod(1, " + point + ", " + other + ")", x.rod(1, point, other), 1);
                said.due("it is the same", x.meet(0, 1), 2);
            }
        }
    }

    private void lineThroughTwo() {
        said.name("Terms", "A LINE through two POINTS: all POINTS that are sums of multiples of them.");
        for (int q : FIELDS) {
            for (int factor = 0; factor <= q; factor++) {
                MeetHouse x = over(q);
                x.rod(0, 1010, 101);
                int point = factor == q ? 101 : 1010 + 101 * factor;
                boolean isOther = factor > 0;
                said.due("over " + q + ": rod(1, 1010, " + point + ")", x.rod(1, 1010, point), isOther ? 1 : BAD);
                said.due("over " + q + ": rod(2, " + point + ", 1000)", x.rod(2, point, 1000), 1);
                said.due("its point: meet", x.meet(0, 2), 1);
                if (isOther) {
                    said.due("the same line", x.meet(0, 1), 2);
                }
                said.due("points of two lines with one in common", x.points(5), 2 * q + 1);
            }
            MeetHouse x = over(q);
            x.rod(0, 1010, 101);
            x.rod(1, 1000, 100);
            said.due("no point of 1000, 100 is on it", x.meet(0, 1), 0);
            x.rod(1, 1011, 1000);
            said.due("1011 and 11 are not on it", x.meet(0, 1), 0);
        }
    }

    private void rods() {
        said.name("Terms", "RODS 0 .. 7 are missing at first, or a LINE each.");
        for (int rod = 0; rod <= 7; rod++) {
            MeetHouse x = new MeetHouse();
            said.due("meet(" + rod + ", " + rod + ")", x.meet(rod, rod), NULL);
            said.due("drop(" + rod + ")", x.drop(rod), NULL);
            said.due("lines(" + (1 << rod) + ")", x.lines(1 << rod), NULL);
            said.due("points(" + (1 << rod) + ")", x.points(1 << rod), NULL);
            said.due("rod(" + rod + ", 1, 10)", x.rod(rod, 1, 10), 1);
            said.due("meet(" + rod + ", " + rod + ")", x.meet(rod, rod), 2);
            said.due("lines(" + (1 << rod) + ")", x.lines(1 << rod), 19);
            said.due("points(" + (1 << rod) + ")", x.points(1 << rod), 3);
            said.due("count(5)", x.count(5), 1);
        }
        MeetHouse x = new MeetHouse();
        for (int rod : Houses.NO_RODS) {
            said.due("rod(" + rod + ", 1, 10)", x.rod(rod, 1, 10), BAD);
            said.due("drop(" + rod + ")", x.drop(rod), BAD);
            said.due("meet(" + rod + ", " + rod + ")", x.meet(rod, rod), BAD);
        }
    }

    private void linesThatMeet() {
        said.name("Terms", "Two LINES MEET, if they have a POINT in common.");
        for (int q : FIELDS) {
            MeetHouse x = over(q);
            x.rod(0, 1000, 100);
            x.rod(1, 10, 1);
            x.rod(2, 1010, 101);
            x.rod(3, 1111, 1000);
            int[][] due = {{0, 1, 0}, {0, 2, 0}, {1, 2, 0}, {0, 3, 1}, {1, 3, 0}, {2, 3, 1}};
            for (int[] row : due) {
                said.due("over " + q + ": meet(" + row[0] + ", " + row[1] + ")", x.meet(row[0], row[1]), row[2]);
                said.due("over " + q + ": meet(" + row[1] + ", " + row[0] + ")", x.meet(row[1], row[0]), row[2]);
            }
        }
        MeetHouse x = over(5);
        x.rod(0, 1000, 12);
        x.rod(1, 4034, 3000);
        said.due("12 and 34 are two points, 1000 is one", x.meet(0, 1), 1);
        x.rod(1, 2024, 1);
        said.due("2024 is twice 1000 and 12 together", x.meet(0, 1), 1);
        x.rod(1, 2023, 100);
        said.due("2023 is not of them", x.meet(0, 1), 0);
    }

    /** All sums of multiples that are not all 0, each as that of its multiples which is told by the least figures. */
    private static Set<Integer> pointsOf(int q, int a, int b) {
        Set<Integer> points = new TreeSet<>();
        for (int s = 0; s < q; s++) {
            for (int t = 0; t < q; t++) {
                int least = Integer.MAX_VALUE;
                for (int factor = 1; factor < q; factor++) {
                    int point = 0;
                    for (int unit = 1000; unit > 0; unit /= 10) {
                        point = 10 * point + factor * (s * (a / unit % 10) + t * (b / unit % 10)) % q;
                    }
                    least = Math.min(least, point);
                }
                if (least > 0) {
                    points.add(least);
                }
            }
        }
        return points;
    }

    /** Two points of each line. */
    private static Map<Set<Integer>, int[]> linesOf(int q) {
        List<Integer> points = new ArrayList<>();
        for (int number = 1; number < 10000; number++) {
            if (isPoint(q, number) && pointsOf(q, number, number).contains(number)) {
                points.add(number);
            }
        }
        Map<Set<Integer>, int[]> lines = new LinkedHashMap<>();
        for (int a : points) {
            for (int b : points) {
                if (a < b) {
                    lines.putIfAbsent(pointsOf(q, a, b), new int[] {a, b});
                }
            }
        }
        return lines;
    }

    /** Each line of 2 and 3 with each, and each 31st of 5, in turn as rod 0 and rod 1. */
    private void linesThatMeetByTheirPoints() {
        said.name("Terms", "Two LINES MEET, if they have a POINT in common.");
        for (int q : FIELDS) {
            Map<Set<Integer>, int[]> lines = linesOf(q);
            said.due("lines over " + q, lines.size(), (q * q + 1) * (q * q + q + 1));
            List<Set<Integer>> sets = new ArrayList<>(lines.keySet());
            for (int one = 0; one < sets.size(); one += q == 5 ? 31 : 1) {
                int[] a = lines.get(sets.get(one));
                MeetHouse x = over(q);
                x.rod(0, a[0], a[1]);
                for (int other = 0; other < sets.size(); other++) {
                    if (other % 200 == 199) {
                        x = over(q);
                        x.rod(0, a[0], a[1]);
                    }
                    int[] b = lines.get(sets.get(other));
                    x.rod(1, b[0], b[1]);
                    boolean isApart = Collections.disjoint(sets.get(one), sets.get(other));
                    said.due("over " + q + ": " + a[0] + "-" + a[1] + " and " + b[0] + "-" + b[1], x.meet(0, 1),
                            one == other ? 2 : isApart ? 0 : 1);
                }
            }
        }
    }

    private void field() {
        said.name(27, "q is 2, 3 or 5; all RODS are missing then: what it was.");
        for (int was : FIELDS) {
            for (int q : FIELDS) {
                MeetHouse x = over(was);
                for (int rod = 0; rod <= 7; rod++) {
                    x.rod(rod, 1, 10);
                }
                said.due("count(5)", x.count(5), 8);
                said.due("from " + was + " to " + q, x.field(q), was);
                said.due("count(4)", x.count(4), q);
                said.due("count(5)", x.count(5), 0);
                said.due("meet(0, 0)", x.meet(0, 0), NULL);
                said.due("drop(7)", x.drop(7), NULL);
                said.due("the greatest figure", x.rod(0, q - 1, 10 * (q - 1)), 1);
                said.due("one above", x.rod(0, q, 10), BAD);
            }
        }
        said.name(27, "BAD.");
        MeetHouse x = over(3);
        x.rod(0, 1, 20);
        for (int q : new int[] {Integer.MIN_VALUE, -5, -3, -2, -1, 0, 1, 4, 6, 7, 8, 9, 25, 32, Integer.MAX_VALUE}) {
            said.due("field(" + q + ")", x.field(q), BAD);
            said.due("count(4)", x.count(4), 3);
            said.due("meet(0, 0)", x.meet(0, 0), 2);
        }
    }

    private void rod() {
        said.name(28, "A ROD is the LINE through two POINTS: 1.");
        for (int q : FIELDS) {
            MeetHouse x = over(q);
            int most = (q - 1) * 1111;
            for (int rod = 0; rod <= 7; rod++) {
                said.due("rod(" + rod + ", " + most + ", 1)", x.rod(rod, most, 1), 1);
                said.due("count(5)", x.count(5), rod + 1);
            }
            said.due("rod(7, 1, 10), over another", x.rod(7, 1, 10), 1);
            said.due("count(5)", x.count(5), 8);
            said.due("it is the new one", x.meet(0, 7), 1);
            said.due("rod(7, 10, 1), the same", x.rod(7, 10, 1), 1);
            said.due("meet(0, 7)", x.meet(0, 7), 1);
            said.due("rod(7, most, 1), as the others", x.rod(7, most, 1), 1);
            said.due("meet(0, 7)", x.meet(0, 7), 2);
        }
    }

    private void rodRefused() {
        for (int q : FIELDS) {
            MeetHouse x = over(q);
            x.rod(0, 1000, 100);
            x.rod(1, 1000, 100);
            said.name(28, "BAD: the ROD,");
            for (int rod : Houses.NO_RODS) {
                said.due("rod(" + rod + ", 1, 10)", x.rod(rod, 1, 10), BAD);
            }
            said.name(28, "POINTS,");
            for (int point : new int[] {Integer.MIN_VALUE, -1000, -1, 0, q, 10 * q, 100 * q, 1000 * q, 1000 + q, 1110 + q,
                9, 9999, 10000, 10001, 11111, Integer.MAX_VALUE}) {
                said.due("over " + q + ": rod(0, " + point + ", 1)", x.rod(0, point, 1), BAD);
                said.due("over " + q + ": rod(0, 1, " + point + ")", x.rod(0, 1, point), BAD);
                said.due("over " + q + ": rod(2, 1, " + point + ")", x.rod(2, 1, point), BAD);
            }
            said.name(28, "one POINT twice.");
            for (int factor = 1; factor < q; factor++) {
                said.due("over " + q + ": rod(0, 1011, " + 1011 * factor + ")", x.rod(0, 1011, 1011 * factor), BAD);
                said.due("over " + q + ": rod(0, " + factor + ", 1)", x.rod(0, factor, 1), BAD);
                said.due("over " + q + ": rod(2, " + 1000 * factor + ", 1000)", x.rod(2, 1000 * factor, 1000), BAD);
            }
            said.due("the rod is as it was", x.meet(0, 1), 2);
            said.due("count(5)", x.count(5), 2);
            said.due("rod(0, 1011, 1)", x.rod(0, 1011, 1), 1);
            said.due("it is another then", x.meet(0, 1), 0);
        }
    }

    private void drop() {
        said.name(29, "A ROD is missing then: 1.");
        for (int rod = 0; rod <= 7; rod++) {
            MeetHouse x = new MeetHouse();
            for (int other = 0; other <= 7; other++) {
                x.rod(other, 1, 10);
            }
            said.due("drop(" + rod + ")", x.drop(rod), 1);
            said.due("count(5)", x.count(5), 7);
            said.due("points of the others", x.points(255 - (1 << rod)), 3);
            said.due("points of all", x.points(255), NULL);
            said.name(29, "NULL.");
            said.due("drop(" + rod + ") again", x.drop(rod), NULL);
            said.due("count(5)", x.count(5), 7);
            said.name(29, "A ROD is missing then: 1.");
            said.due("it comes again", x.rod(rod, 1, 10), 1);
            said.due("drop(" + rod + ") then", x.drop(rod), 1);
        }
        said.name(29, "BAD;");
        MeetHouse x = new MeetHouse();
        x.rod(0, 1, 10);
        for (int rod : Houses.NO_RODS) {
            said.due("drop(" + rod + ")", x.drop(rod), BAD);
        }
        said.due("count(5)", x.count(5), 1);
    }

    private void meet() {
        said.name(30, "Whether two RODS MEET: 1, 0 (2: they are one LINE).");
        for (int q : FIELDS) {
            MeetHouse x = over(q);
            x.rod(0, 1000, 100);
            x.rod(7, 1100, (q - 1) * 1000);
            said.due("one line by other points", x.meet(0, 7), 2);
            said.due("and back", x.meet(7, 0), 2);
            said.due("one rod", x.meet(7, 7), 2);
            x.rod(7, 1100, 1);
            said.due("one point", x.meet(0, 7), 1);
            said.due("and back", x.meet(7, 0), 1);
            x.rod(7, 1101, 11);
            said.due("none", x.meet(0, 7), 0);
            said.due("and back", x.meet(7, 0), 0);
        }
        MeetHouse x = new MeetHouse();
        x.rod(0, 1, 10);
        said.name(30, "BAD;");
        for (int rod : Houses.NO_RODS) {
            said.due("meet(" + rod + ", 0)", x.meet(rod, 0), BAD);
            said.due("meet(0, " + rod + ")", x.meet(0, rod), BAD);
            said.due("meet(" + rod + ", 1), missing", x.meet(rod, 1), BAD);
            said.due("meet(1, " + rod + "), missing", x.meet(1, rod), BAD);
        }
        said.name(30, "NULL.");
        said.due("meet(0, 7)", x.meet(0, 7), NULL);
        said.due("meet(7, 0)", x.meet(7, 0), NULL);
        said.due("meet(7, 7)", x.meet(7, 7), NULL);
        said.due("meet(0, 0)", x.meet(0, 0), 2);
    }

    /** Rods 0 to 2 are apart, rods 3 to 5 go through 1000, rods 6 and 7 are rod 0. */
    private static MeetHouse eight(int q) {
        MeetHouse x = over(q);
        x.rod(0, 1000, 100);
        x.rod(1, 10, 1);
        x.rod(2, 1010, 101);
        x.rod(3, 1000, 10);
        x.rod(4, 1000, 1);
        x.rod(5, 1000, 111);
        x.rod(6, 100, 1100);
        x.rod(7, 1100, 1000);
        return x;
    }

    private void lines() {
        said.name(31, "How many LINES of SPACE MEET each ROD that bits (0 to 255) tell.");
        int[] all = {35, 130, 806};
        for (int at = 0; at < FIELDS.length; at++) {
            int q = FIELDS[at];
            MeetHouse x = eight(q);
            int one = 1 + q * (q + 1) * (q + 1);
            int[][] due = {{0, all[at]}, {1, one}, {2, one}, {64, one}, {128, one}, {193, one}, {3, (q + 1) * (q + 1)},
                {7, q + 1}, {199, q + 1}, {9, 2 * q * q + q + 1}, {25, q * q + q + 1}, {56, q * q + q + 1},
                {57, q * q + q + 1}, {249, q * q + q + 1}};
            for (int[] row : due) {
                said.due("over " + q + ": lines(" + row[0] + ")", x.lines(row[0]), row[1]);
            }
            said.due("over " + q + ": lines(255)", x.lines(255), x.lines(63));
        }
    }

    private void linesRefused() {
        said.name(31, "BAD;");
        MeetHouse x = eight(2);
        for (int bits : NO_BITS) {
            said.due("lines(" + bits + ")", x.lines(bits), BAD);
            said.due("lines(" + bits + "), rods missing", new MeetHouse().lines(bits), BAD);
        }
        said.name(31, "NULL: one of these is missing.");
        for (int rod = 0; rod <= 7; rod++) {
            x = eight(2);
            x.drop(rod);
            said.due("lines(255)", x.lines(255), NULL);
            said.due("lines(" + (1 << rod) + ")", x.lines(1 << rod), NULL);
            said.holds("lines of the others", x.lines(255 - (1 << rod)) > 0);
            said.due("lines(0)", x.lines(0), 35);
        }
    }

    private void pointsOnRods() {
        said.name(32, "How many POINTS are on one of the RODS that bits tell, at least.");
        for (int q : FIELDS) {
            MeetHouse x = eight(q);
            int[][] due = {{0, 0}, {1, q + 1}, {128, q + 1}, {193, q + 1}, {3, 2 * q + 2}, {7, 3 * q + 3},
                {9, 2 * q + 1}, {25, 3 * q + 1}, {57, 4 * q + 1}, {249, 4 * q + 1}};
            for (int[] row : due) {
                said.due("over " + q + ": points(" + row[0] + ")", x.points(row[0]), row[1]);
            }
        }
        said.due("over 2: points(255)", eight(2).points(255), 11);
    }

    private void pointsRefused() {
        said.name(32, "BAD;");
        MeetHouse x = eight(2);
        for (int bits : NO_BITS) {
            said.due("points(" + bits + ")", x.points(bits), BAD);
            said.due("points(" + bits + "), rods missing", new MeetHouse().points(bits), BAD);
        }
        said.name(32, "NULL.");
        for (int rod = 0; rod <= 7; rod++) {
            x = eight(2);
            x.drop(rod);
            said.due("points(255)", x.points(255), NULL);
            said.due("points(" + (1 << rod) + ")", x.points(1 << rod), NULL);
            said.holds("points of the others", x.points(255 - (1 << rod)) > 0);
            said.due("points(0)", x.points(0), 0);
        }
    }

    private void count() {
        MeetHouse x = new MeetHouse();
        said.name(33, "0 SHEETS that are not LOST,");
        for (int sheet = 0; sheet <= 11; sheet++) {
            said.due("count(0)", x.count(0), sheet);
            x.blank(sheet);
        }
        said.due("count(0)", x.count(0), 12);
        x.lose(0);
        said.due("count(0)", x.count(0), 11);
        said.name(33, "1 BOXES in THE LIST,");
        for (int at = 0; at <= 16; at++) {
            said.due("count(1)", x.count(1), at);
            x.condition(10);
        }
        said.due("count(1), FULL", x.count(1), 16);
        said.name(33, "2 its rows, 3 its columns,");
        for (int k = 1; k <= 4; k++) {
            for (int m = 1; m <= 4; m++) {
                x.begin(k, m);
                said.due("count(2)", x.count(2), k);
                said.due("count(3)", x.count(3), m);
            }
        }
        said.due("count(1)", x.count(1), 0);
        said.name(33, "4 q,");
        for (int q : FIELDS) {
            x.field(q);
            said.due("count(4)", x.count(4), q);
        }
        said.name(33, "5 RODS that are there.");
        for (int rod = 0; rod <= 7; rod++) {
            said.due("count(5)", x.count(5), rod);
            x.rod(rod, 1, 10);
        }
        said.due("count(5)", x.count(5), 8);
        x.drop(7);
        said.due("count(5)", x.count(5), 7);
    }

    private void countRefused() {
        said.name(33, "BAD.");
        MeetHouse x = new MeetHouse();
        for (int what : new int[] {Integer.MIN_VALUE, -2, -1, 6, 7, 10, 100, Integer.MAX_VALUE}) {
            said.due("count(" + what + ")", x.count(what), BAD);
        }
        said.due("count(0)", x.count(0), 0);
        said.due("count(5)", x.count(5), 0);
    }

    /** 17, then 31 times it and each; the rest by 2 to the 64th, as a long has it. */
    static long digestOf(long... all) {
        BigInteger h = BigInteger.valueOf(17);
        for (long each : all) {
            h = h.multiply(BigInteger.valueOf(31)).add(BigInteger.valueOf(each));
        }
        return h.longValue();
    }

    private void digest() {
        said.name(34, "h is 17; h becomes 31 h and each of: count() 0 to 5,");
        MeetHouse x = new MeetHouse();
        said.due("new", x.digest(), digestOf(0, 0, 2, 2, 2, 0));
        x.begin(4, 1);
        x.field(5);
        x.rod(3, 1, 10);
        said.due("each of them", x.digest(), digestOf(0, 0, 4, 1, 5, 1));
        x.rod(3, 1, 100);
        said.due("not which line", x.digest(), digestOf(0, 0, 4, 1, 5, 1));
        x.drop(3);
        x.rod(0, 1, 10);
        said.due("nor which rod", x.digest(), digestOf(0, 0, 4, 1, 5, 1));
        said.due("asked again", x.digest(), digestOf(0, 0, 4, 1, 5, 1));
    }

    private void digestOfWhatIsThere() {
        said.name(34, "of each SHEET that is not LOST its number, terms(), of each TERM EXPONENTS and NUMBER,");
        MeetHouse x = new MeetHouse();
        x.blank(11);
        said.due("sheet 11, no terms", x.digest(), digestOf(1, 0, 2, 2, 2, 0, 11, 0));
        x.blank(0);
        said.due("sheets 0 and 11", x.digest(), digestOf(2, 0, 2, 2, 2, 0, 0, 0, 11, 0));
        Houses.put(x, 5, 7, 1, -MOST, 88888);
        said.due("a sheet between", x.digest(),
                digestOf(3, 0, 2, 2, 2, 0, 0, 0, 5, 2, 88888, -MOST, 1, 7, 11, 0));
        x.lose(0);
        x.lose(11);
        said.due("it alone", x.digest(), digestOf(1, 0, 2, 2, 2, 0, 5, 2, 88888, -MOST, 1, 7));
        x.lose(5);
        said.due("none", x.digest(), digestOf(0, 0, 2, 2, 2, 0));
        said.name(34, "the BOXES of THE LIST;");
        x.condition(21);
        said.due("one box", x.digest(), digestOf(0, 1, 2, 2, 2, 0, 21));
        x.condition(0);
        x.condition(22);
        said.due("three boxes", x.digest(), digestOf(0, 3, 2, 2, 2, 0, 21, 0, 22));
        x.blank(3);
        said.due("behind the sheets", x.digest(), digestOf(1, 3, 2, 2, 2, 0, 3, 0, 21, 0, 22));
        x.begin(2, 2);
        said.due("begun again", x.digest(), digestOf(1, 0, 2, 2, 2, 0, 3, 0));
    }

    private void digestThatWraps() {
        said.name(34, "as longs that wrap.");
        MeetHouse x = Houses.full(4);
        long[] due = new long[6 + 2 + 1200 + 16];
        int at = 0;
        for (long each : new long[] {1, 16, 4, 4, 2, 0, 4, 600}) {
            due[at++] = each;
        }
        for (int exponents = 88888; exponents >= 0; exponents--) {
            if (exponents / 10000 <= 4 && exponents / 1000 % 10 <= 4 && exponents / 100 % 10 <= 3
                    && exponents / 10 % 10 <= 5 && exponents % 10 == 0) {
                due[at++] = exponents;
                due[at++] = 1;
            }
        }
        x.begin(4, 4);
        for (int box = 0; box < 16; box++) {
            x.condition(4321);
            due[at++] = 4321;
        }
        said.due("as many as are told", at, due.length);
        said.due("600 terms and 16 boxes", x.digest(), digestOf(due));
        x = new MeetHouse();
        long[] few = {0, 8, 2, 2, 2, 0, 22, 22, 22, 22, 22, 22, 22, 22};
        for (int box = 1; box <= 8; box++) {
            x.condition(22);
            few[1] = box;
            said.due(box + " boxes: on both sides of the greatest long", x.digest(),
                    digestOf(Arrays.copyOf(few, 6 + box)));
        }
    }
}
