import java.util.Arrays;
import java.util.HashMap;
import java.util.List;
import java.util.Map;

/** Promises 21 to 26: boxes, strips, fillings, and the list. */
public final class BoxesTest {
    private static final int NONE = -1, BAD = -2, FULL = -7;
    private static final int[] NO_SIDES = {Integer.MIN_VALUE, -1, 0, 5, 6, Integer.MAX_VALUE};
    private static final Check CHECK = new Check("BoxesTest");

    public static void main(String[] args) {
        strip();
        fillings();
        fillingsByTheirWords();
        orderOf();
        begin();
        condition();
        meeting();
        meetingOfStrips();
        CHECK.end();
    }

    /** What no box of 2 rows, 3 columns is. */
    private static int[] noBoxes() {
        return new int[] {Integer.MIN_VALUE, -10, -1, 1, 3, 12, 23, 40, 41, 44, 100, 110, 321, 3000, Integer.MAX_VALUE};
    }

    private static void strip() {
        MeetHouse x = new MeetHouse();
        int[][] due = {{2, 3, 10, 2, 0, 21}, {2, 3, 10, 2, 1, 30}, {2, 3, 10, 2, 2, NONE}, {2, 3, 10, 2, -1, NONE},
            {2, 3, 10, 0, 0, 10}, {2, 3, 10, 0, 1, NONE}, {2, 3, 10, 3, 0, 31}, {2, 3, 10, 4, 0, NONE},
            {1, 1, 0, 1, 0, 1}, {1, 1, 1, 1, 0, NONE}, {1, 4, 0, 4, 0, 4}, {1, 4, 0, 5, 0, NONE},
            {4, 4, 2100, 2, 0, 2210}, {4, 4, 2100, 2, 1, 3110}, {4, 4, 2100, 2, 2, 3200}, {4, 4, 2100, 2, 3, 4100},
            {4, 4, 2100, 2, 4, NONE}, {4, 4, 0, 1, 0, 1000}, {4, 4, 0, 2, 0, 2000},
            {4, 4, 0, 2, 1, NONE}, {4, 4, 0, 16, 0, NONE}, {4, 4, 0, 17, 0, BAD}, {4, 4, 0, -1, 0, BAD},
            {4, 4, 4444, 0, 0, 4444}, {3, 3, 321, 1, 0, 322}, {3, 3, 321, 1, 1, 331}, {3, 3, 321, 1, 2, NONE},
            {2, 3, 10, 2, Integer.MAX_VALUE, NONE}, {2, 3, 10, 2, Integer.MIN_VALUE, NONE},
            {2, 3, 10, Integer.MAX_VALUE, 0, BAD}, {2, 3, 10, Integer.MIN_VALUE, 0, BAD}};
        for (int[] row : due) {
            String told = "21: strip(" + row[0] + ", " + row[1] + ", " + row[2] + ", " + row[3] + ", " + row[4] + ")";
            CHECK.due(told, x.strip(row[0], row[1], row[2], row[3], row[4]), row[5]);
        }
        for (int box : noBoxes()) {
            CHECK.due("21: box " + box, x.strip(2, 3, box, 1, -1), BAD);
        }
        for (int side : NO_SIDES) {
            CHECK.due("21: k " + side, x.strip(side, 2, 0, 0, 0), BAD);
            CHECK.due("21: m " + side, x.strip(2, side, 0, 0, 0), BAD);
        }
        Reference reference = new Reference();
        for (int k = 1; k <= 4; k++) {
            for (int m = 1; m <= 4; m++) {
                for (int box : Reference.allBoxes(k, m)) {
                    x = new MeetHouse();
                    for (int p = 0; p <= 5; p++) {
                        for (int i = 0; i <= 5; i++) {
                            CHECK.due("21: " + k + m + " " + box + " " + p + " " + i, x.strip(k, m, box, p, i),
                                    reference.strip(k, m, box, p, i));
                        }
                    }
                }
            }
        }
    }

    private static void fillings() {
        MeetHouse x = new MeetHouse();
        int[][] due = {{3, 3, 210, 210, 321, 2}, {3, 3, 210, 210, 222, 1}, {2, 2, 10, 10, 20, 1},
            {2, 2, 10, 10, 11, 1}, {2, 2, 10, 10, 21, 0}, {2, 2, 21, 0, 20, 0}, {2, 2, 20, 0, 11, 0},
            {2, 2, 11, 0, 20, 0}, {2, 2, 0, 0, 0, 1}, {2, 2, 22, 0, 22, 1}, {2, 2, 0, 22, 22, 1},
            {2, 2, 12, 0, 22, BAD}, {2, 2, 0, 12, 22, BAD}, {2, 2, 0, 0, 12, BAD}, {2, 3, 30, 3, 33, BAD},
            {2, 3, 30, 30, 33, 1}, {4, 4, 2100, 2100, 3210, 2}, {1, 4, 2, 2, 4, 1},
            {1, 4, 2, 1, 4, 0}, {4, 1, 1100, 1000, 1110, 1}, {4, 1, 1100, 1100, 1111, 1}, {1, 1, 0, 1, 1, 1},
            {4, 4, 0, 4321, 4321, 1}, {4, 4, 0, 4222, 4321, 0}};
        for (int[] row : due) {
            String told = "22: fillings(" + row[0] + ", " + row[1] + ", " + row[2] + ", " + row[3] + ", " + row[4] + ")";
            CHECK.due(told, x.fillings(row[0], row[1], row[2], row[3], row[4]), row[5]);
        }
        for (int box : noBoxes()) {
            CHECK.due("22: a " + box, x.fillings(2, 3, box, 0, 33), BAD);
            CHECK.due("22: b " + box, x.fillings(2, 3, 0, box, 33), BAD);
            CHECK.due("22: c " + box, x.fillings(2, 3, 0, 0, box), BAD);
        }
        for (int side : NO_SIDES) {
            CHECK.due("22: k " + side, x.fillings(side, 2, 0, 0, 0), BAD);
            CHECK.due("22: m " + side, x.fillings(2, side, 0, 0, 0), BAD);
        }
    }

    private static void fillingsByTheirWords() {
        Reference reference = new Reference();
        int[][] shapes = {{1, 4, 4}, {2, 4, 8}, {3, 3, 9}, {4, 2, 6}, {4, 4, 6}};
        for (int[] shape : shapes) {
            int k = shape[0];
            int m = shape[1];
            List<Integer> boxes = Reference.allBoxes(k, m);
            for (int a : boxes) {
                for (int c : boxes) {
                    MeetHouse x = new MeetHouse();
                    int[][] places = places(k, a, c);
                    Map<Integer, Integer> due = places == null || places.length > shape[2] ? null : filled(k, a, places);
                    for (int b : boxes) {
                        String told = "22: " + k + ", " + m + ", " + a + ", " + b + ", " + c;
                        int got = x.fillings(k, m, a, b, c);
                        CHECK.due(told + " by weights", got, places == null ? 0 : reference.fillings(k, m, a, b, c));
                        if (due != null) {
                            CHECK.due(told, got, due.getOrDefault(b, 0));
                        }
                    }
                }
            }
        }
    }

    private static int figure(int k, int box, int row) {
        return (int) (box / Math.pow(10, k - row)) % 10;
    }

    /** Row and column of each place of c that is not of a, as they are gone through; null if a is not inside c. */
    private static int[][] places(int k, int a, int c) {
        int many = 0;
        for (int row = 1; row <= k; row++) {
            if (figure(k, a, row) > figure(k, c, row)) {
                return null;
            }
            many += figure(k, c, row) - figure(k, a, row);
        }
        int[][] places = new int[many][];
        int at = 0;
        for (int row = 1; row <= k; row++) {
            for (int column = figure(k, c, row); column > figure(k, a, row); column--) {
                places[at++] = new int[] {row, column};
            }
        }
        return places;
    }

    /** How many fillings there are of each content: all rows of numbers are put on the places and looked at. */
    private static Map<Integer, Integer> filled(int k, int a, int[][] places) {
        Map<Integer, Integer> filled = new HashMap<>();
        int all = (int) Math.pow(k, places.length);
        for (int code = 0; code < all; code++) {
            int[][] numbers = new int[6][6];
            int rest = code;
            for (int[] place : places) {
                numbers[place[0]][place[1]] = 1 + rest % k;
                rest /= k;
            }
            if (isFilling(numbers, places)) {
                int content = 0;
                for (int number = 1; number <= k; number++) {
                    content = content * 10 + many(numbers, places, number, places.length);
                }
                filled.merge(content, 1, Integer::sum);
            }
        }
        return filled;
    }

    private static boolean isFilling(int[][] numbers, int[][] places) {
        for (int at = 0; at < places.length; at++) {
            int row = places[at][0];
            int column = places[at][1];
            int here = numbers[row][column];
            // where nothing stands, or a does, the number is 0
            if (here < numbers[row][column - 1] || numbers[row - 1][column] != 0 && here <= numbers[row - 1][column]) {
                return false;
            }
            for (int j = 1; j < 5; j++) {
                if (many(numbers, places, j + 1, at + 1) > many(numbers, places, j, at + 1)) {
                    return false;
                }
            }
        }
        return true;
    }

    private static int many(int[][] numbers, int[][] places, int number, int upTo) {
        int many = 0;
        for (int at = 0; at < upTo; at++) {
            many += numbers[places[at][0]][places[at][1]] == number ? 1 : 0;
        }
        return many;
    }

    private static void orderOf() {
        MeetHouse x = new MeetHouse();
        int[][] due = {{2, 2, 21, 2413}, {2, 2, 0, 1234}, {2, 2, 22, 3412}, {2, 2, 10, 1324}, {2, 3, 31, 25134},
            {2, 3, 33, 45123}, {3, 2, 210, 13524}, {3, 2, 222, 34512}, {4, 1, 1111, 23451}, {4, 1, 1000, 12354},
            {1, 4, 4, 51234}, {1, 1, 1, 21}, {1, 1, 0, 12}, {1, 2, 2, 312}, {2, 1, 11, 231}, {2, 1, 10, 132},
            {3, 3, 0, BAD}, {4, 2, 0, BAD}, {2, 4, 0, BAD}, {4, 4, 0, BAD}, {2, 2, 12, BAD}, {2, 2, 30, BAD}};
        for (int[] row : due) {
            CHECK.due("23: orderOf(" + row[0] + ", " + row[1] + ", " + row[2] + ")", x.orderOf(row[0], row[1], row[2]),
                    row[3]);
        }
        for (int box : noBoxes()) {
            CHECK.due("23: box " + box, x.orderOf(2, 3, box), BAD);
        }
        for (int side : NO_SIDES) {
            CHECK.due("23: k " + side, x.orderOf(side, 1, 0), BAD);
            CHECK.due("23: m " + side, x.orderOf(1, side, 0), BAD);
        }
        Reference reference = new Reference();
        for (int k = 1; k <= 4; k++) {
            for (int m = 1; m <= 4; m++) {
                for (int box : Reference.allBoxes(k, m)) {
                    CHECK.due("23: " + k + m + " " + box, x.orderOf(k, m, box), reference.orderOf(k, m, box));
                }
            }
        }
    }

    private static void begin() {
        MeetHouse x = new MeetHouse();
        CHECK.due("24: nothing was gone", x.begin(3, 4), 0);
        CHECK.due("24: rows", x.count(2), 3);
        CHECK.due("24: columns", x.count(3), 4);
        x.condition(430);
        x.condition(0);
        long before = x.digest();
        for (int side : NO_SIDES) {
            CHECK.due("24: k " + side, x.begin(side, 2), BAD);
            CHECK.due("24: m " + side, x.begin(2, side), BAD);
            CHECK.due("24: nothing changed", x.digest(), before);
        }
        CHECK.due("24: two are gone", x.begin(4, 1), 2);
        CHECK.due("24: none is left", x.count(1), 0);
        CHECK.due("24: rows", x.count(2), 4);
        CHECK.due("24: columns", x.count(3), 1);
        for (int i = 1; i <= 16; i++) {
            x.condition(0);
        }
        CHECK.due("24: all are gone", x.begin(4, 1), 16);
    }

    private static void condition() {
        MeetHouse x = new MeetHouse();
        x.begin(2, 3);
        long before = x.digest();
        for (int box : noBoxes()) {
            CHECK.due("25: box " + box, x.condition(box), BAD);
        }
        CHECK.due("25: nothing changed", x.digest(), before);
        for (int i = 1; i <= 16; i++) {
            CHECK.due("25: box " + i, x.condition(i % 3 == 0 ? 0 : 31), i);
            CHECK.due("25: how many", x.count(1), i);
        }
        before = x.digest();
        CHECK.due("25: FULL", x.condition(10), FULL);
        CHECK.due("25: FULL of nothing too", x.condition(0), FULL);
        CHECK.due("25: BAD ahead of FULL", x.condition(12), BAD);
        CHECK.due("25: nothing changed", x.digest(), before);
        x.begin(2, 3);
        CHECK.due("25: again", x.condition(10), 1);
    }

    private static long meetingOf(int k, int m, int... boxes) {
        MeetHouse x = new MeetHouse();
        x.begin(k, m);
        for (int box : boxes) {
            x.condition(box);
        }
        long before = x.digest();
        long number = x.meeting();
        CHECK.due("26: nothing changed", x.digest(), before);
        CHECK.due("26: the same again", x.meeting(), number);
        return number;
    }

    private static void meeting() {
        CHECK.due("26: none", new MeetHouse().meeting(), 0);
        CHECK.due("26: none", meetingOf(4, 4), 0);
        CHECK.due("26: two lines meet four", meetingOf(2, 2, 10, 10, 10, 10), 2);
        CHECK.due("26: too few", meetingOf(2, 2, 10, 10, 10), 0);
        CHECK.due("26: too many", meetingOf(2, 2, 10, 10, 10, 10, 10), 0);
        CHECK.due("26: five of six", meetingOf(2, 3, 10, 10, 10, 10, 10, 10), 5);
        CHECK.due("26: nothing in between", meetingOf(2, 2, 10, 0, 10, 0, 0, 10, 10, 0), 2);
        CHECK.due("26: the whole at once", meetingOf(3, 3, 333), 1);
        CHECK.due("26: a box and its other", meetingOf(3, 3, 210, 321), 1);
        CHECK.due("26: a box and not its other", meetingOf(3, 3, 210, 330), 0);
        CHECK.due("26: three", meetingOf(3, 3, 210, 210, 210), 2);
        CHECK.due("26: three others", meetingOf(3, 3, 210, 210, 111), 1);
        CHECK.due("26: one row", meetingOf(1, 4, 1, 2, 1), 1);
        CHECK.due("26: one column", meetingOf(4, 1, 1000, 1100, 1000), 1);
        int[] nine = new int[9];
        Arrays.fill(nine, 100);
        CHECK.due("26: nine", meetingOf(3, 3, nine), 42);
        int[] sixteen = new int[16];
        Arrays.fill(sixteen, 1000);
        CHECK.due("26: sixteen", meetingOf(4, 4, sixteen), 24024);
        int[] twelve = new int[12];
        Arrays.fill(twelve, 100);
        CHECK.due("26: twelve", meetingOf(3, 4, twelve), 462);
    }

    /** A condition of one row alone puts on strips: both ways must come to one number. */
    private static void meetingOfStrips() {
        MeetHouse x = new MeetHouse();
        int[][] lists = {{2, 1, 3, 2, 1}, {3, 3, 3}, {1, 1, 1, 2, 2, 2}, {2, 2, 2, 3}};
        for (int[] parts : lists) {
            Map<Integer, Long> often = new HashMap<>();
            often.put(0, 1L);
            int[] boxes = new int[parts.length];
            for (int at = 0; at < parts.length; at++) {
                boxes[at] = 100 * parts[at];
                Map<Integer, Long> next = new HashMap<>();
                for (int box : often.keySet()) {
                    for (int i = 0; x.strip(3, 3, box, parts[at], i) >= 0; i++) {
                        next.merge(x.strip(3, 3, box, parts[at], i), often.get(box), Long::sum);
                    }
                }
                often = next;
            }
            CHECK.due("26: by strips", meetingOf(3, 3, boxes), often.getOrDefault(333, 0L));
        }
    }
}
