/** What the document says of BOXES and THE LIST, and promises 21 to 26: calls on both sides of each boundary. */
final class BoxBoundaries {
    private static final int NONE = Houses.NONE, BAD = Houses.BAD, FULL = Houses.FULL;
    /** What no box of 2 rows, 3 columns is, beside those that are. */
    private static final int[] NO_BOXES = {Integer.MIN_VALUE, -33, -1, 1, 2, 9, 12, 13, 19, 23, 29, 34, 40, 44, 99, 100,
        110, 133, 320, 333, 3000, Integer.MAX_VALUE};
    private static final int[] THE_BOXES = {0, 10, 11, 20, 21, 22, 30, 31, 32, 33};

    private final Sentences said;

    BoxBoundaries(Sentences said) {
        this.said = said;
    }

    void all() {
        boxes();
        size();
        stripOnABox();
        placesOfAFilling();
        rowsAndColumns();
        asManyAsTold();
        noMoreOfTheNext();
        listOfSixteen();
        numberOfTheList();
        strip();
        stripRefused();
        fillings();
        fillingsRefused();
        orderOf();
        begin();
        condition();
        meeting();
    }

    private static boolean isBox(int k, int m, int box) {
        if (k < 1 || k > 4 || m < 1 || m > 4 || box < 0) {
            return false;
        }
        String told = String.valueOf(box);
        told = "0".repeat(Math.max(0, k - told.length())) + told;
        char ahead = (char) ('0' + m);
        for (char figure : told.toCharArray()) {
            if (figure > ahead) {
                return false;
            }
            ahead = figure;
        }
        return told.length() == k;
    }

    private void boxes() {
        said.name("Terms", "BOXES of k rows (1 to 4) and m columns (1 to 4): k figures 0 .. m, none above the one ahead"
                + " (3100).");
        int[][] many = {{2, 3, 4, 5}, {3, 6, 10, 15}, {4, 10, 20, 35}, {5, 15, 35, 70}};
        for (int k = -1; k <= 6; k++) {
            for (int m = -1; m <= 6; m++) {
                MeetHouse x = new MeetHouse();
                int found = 0;
                for (int box = -5; box <= 11115; box++) {
                    x = box % 400 == 0 ? new MeetHouse() : x;
                    boolean isTaken = x.strip(k, m, box, 0, 0) == box && box != BAD;
                    found += isTaken ? 1 : 0;
                    if (isTaken != isBox(k, m, box)) {
                        said.due("a box of " + k + ", " + m + ": " + box, isTaken ? 1 : 0, isTaken ? 0 : 1);
                    }
                }
                boolean isTold = k >= 1 && k <= 4 && m >= 1 && m <= 4;
                said.due("boxes of " + k + ", " + m, found, isTold ? many[k - 1][m - 1] : 0);
            }
        }
        MeetHouse x = new MeetHouse();
        said.due("3100 of 4, 3", x.strip(4, 3, 3100, 0, 0), 3100);
        said.due("3100 of 4, 2", x.strip(4, 2, 3100, 0, 0), BAD);
        said.due("3100 of 3, 3", x.strip(3, 3, 3100, 0, 0), BAD);
        said.due("3101 of 4, 3", x.strip(4, 3, 3101, 0, 0), BAD);
    }

    private void size() {
        said.name("Terms", "SIZE: the sum.");
        MeetHouse x = new MeetHouse();
        said.due("of 3100 by 10 places to 3331", x.fillings(4, 4, 3100, 3210, 3331), 1);
        said.due("of 3100 by 7 places to 3331", x.fillings(4, 4, 3100, 3210, 3330), 0);
        said.due("a strip of 2 has 2 more", x.strip(3, 4, 210, 2, 0), 221);
        said.due("a strip of 0 has as many", x.strip(3, 4, 210, 0, 0), 210);
    }

    private void stripOnABox() {
        said.name("Terms", "A STRIP of p on a BOX: a BOX of as many rows and columns, each figure of which is as great as"
                + " that of the first, or greater, but none greater than the first one's figure ahead of it,"
                + " of p more SIZE.");
        MeetHouse x = new MeetHouse();
        strips(x, 2, 3, 10, 0, 10);
        strips(x, 2, 3, 10, 1, 11, 20);
        strips(x, 2, 3, 10, 2, 21, 30);
        strips(x, 2, 3, 10, 3, 31);
        strips(x, 2, 3, 10, 4);
        strips(x, 2, 3, 33, 0, 33);
        strips(x, 2, 3, 33, 1);
        strips(x, 2, 3, 32, 1, 33);
        strips(x, 2, 3, 32, 2);
        strips(x, 2, 3, 0, 3, 30);
        strips(x, 2, 3, 0, 4);
        strips(x, 4, 4, 3210, 3, 3321, 4221, 4311, 4320);
        strips(x, 4, 4, 3210, 4, 4321);
        strips(x, 4, 4, 3210, 5);
        strips(x, 4, 4, 4400, 3, 4430);
        strips(x, 4, 4, 4400, 4, 4440);
        strips(x, 4, 4, 4400, 5);
        strips(x, 1, 1, 0, 1, 1);
        strips(x, 1, 1, 1, 1);
        strips(x, 1, 4, 1, 3, 4);
        strips(x, 1, 4, 1, 4);
        strips(x, 4, 1, 1000, 1, 1100);
        strips(x, 4, 1, 1000, 2);
    }

    /** Just these, from the 0th on. */
    private void strips(MeetHouse x, int k, int m, int box, int p, int... due) {
        String told = "strip(" + k + ", " + m + ", " + box + ", " + p + ", ";
        said.due(told + "-1)", x.strip(k, m, box, p, -1), NONE);
        for (int i = 0; i < due.length; i++) {
            said.due(told + i + ")", x.strip(k, m, box, p, i), due[i]);
        }
        said.due(told + due.length + ")", x.strip(k, m, box, p, due.length), NONE);
    }

    private void filled(int[][] due) {
        for (int[] row : due) {
            MeetHouse x = new MeetHouse();
            said.due("fillings(" + row[0] + ", " + row[1] + ", " + row[2] + ", " + row[3] + ", " + row[4] + ")",
                    x.fillings(row[0], row[1], row[2], row[3], row[4]), row[5]);
        }
    }

    private void placesOfAFilling() {
        said.name("Terms", "A FILLING of BOX c over a by b: each place of row r (from 1) of c that is not of a (those from"
                + " a's figure and 1 on) has a number 1 .. k;");
        filled(new int[][] {{2, 2, 0, 0, 0, 1}, {2, 2, 22, 0, 22, 1}, {4, 4, 4444, 0, 4444, 1}, {2, 2, 21, 10, 22, 1},
            {2, 2, 22, 10, 22, 0}, {2, 2, 20, 10, 21, 1}, {2, 2, 11, 10, 21, 1}, {1, 4, 0, 4, 4, 1}, {1, 4, 4, 0, 4, 1},
            {1, 4, 3, 1, 4, 1}, {2, 1, 0, 11, 11, 1}, {3, 1, 0, 111, 111, 1}, {4, 1, 0, 1111, 1111, 1},
            {4, 4, 0, 4444, 4444, 1}, {4, 1, 1000, 1110, 1111, 1}});
    }

    private void rowsAndColumns() {
        said.name("Terms", "in a row none is below the one ahead of it,");
        filled(new int[][] {{2, 2, 0, 11, 20, 0}, {2, 2, 0, 20, 20, 1}, {2, 3, 0, 21, 30, 0}, {2, 3, 10, 11, 30, 0},
            {2, 3, 20, 21, 32, 1}, {2, 4, 20, 21, 41, 1}});
        said.name("Terms", "in a column each is above the one over it (where that one is not of a);");
        filled(new int[][] {{2, 2, 0, 20, 11, 0}, {2, 2, 0, 11, 11, 1}, {2, 2, 10, 20, 21, 1}, {2, 2, 11, 20, 22, 0},
            {2, 2, 11, 11, 22, 1}, {2, 2, 20, 20, 22, 1}, {2, 2, 20, 11, 22, 0}, {3, 1, 100, 110, 111, 1},
            {3, 1, 100, 200, 111, BAD}, {3, 3, 100, 200, 111, 0}});
    }

    private void asManyAsTold() {
        said.name("Terms", "there are as many of each number j as figure j of b tells;");
        filled(new int[][] {{2, 3, 10, 20, 21, 1}, {2, 3, 10, 11, 21, 1}, {2, 3, 10, 10, 21, 0}, {2, 3, 10, 0, 21, 0},
            {2, 3, 10, 30, 21, 0}, {2, 3, 10, 21, 21, 0}, {2, 3, 10, 0, 10, 1}, {2, 3, 10, 10, 10, 0},
            {2, 3, 21, 21, 33, 1}, {2, 3, 21, 30, 33, 0}, {3, 3, 210, 210, 321, 2}, {3, 3, 210, 300, 321, 1},
            {3, 3, 210, 111, 321, 1}});
    }

    private void noMoreOfTheNext() {
        said.name("Terms", "and, gone through from the first row on, each from its end to its beginning, behind each"
                + " place there have been no more of j + 1 than of j, for each j.");
        filled(new int[][] {{2, 2, 0, 11, 20, 0}, {2, 2, 0, 11, 11, 1}, {2, 2, 10, 11, 21, 1}, {3, 3, 210, 111, 321, 1},
            {3, 3, 210, 210, 321, 2}, {3, 3, 210, 210, 222, 1}, {2, 3, 10, 21, 22, 1}, {2, 3, 10, 21, 31, 1},
            {2, 3, 20, 11, 31, 1}, {2, 3, 20, 11, 22, 0}, {3, 3, 110, 111, 221, 1}, {3, 3, 100, 110, 111, 1},
            {3, 3, 200, 110, 211, 1}, {4, 4, 0, 3210, 3210, 1}, {4, 4, 0, 2220, 3210, 0}, {4, 4, 0, 3111, 3210, 0}});
    }

    private static MeetHouse list(int k, int m, int many, int box) {
        MeetHouse x = new MeetHouse();
        x.begin(k, m);
        for (int at = 0; at < many; at++) {
            x.condition(box);
        }
        return x;
    }

    private void listOfSixteen() {
        said.name("Terms", "THE LIST has up to 16 BOXES of the k, m it was begun with.");
        MeetHouse x = list(4, 4, 15, 1000);
        said.due("the 16th", x.condition(1000), 16);
        said.due("the 17th", x.condition(1000), FULL);
        said.due("count(1)", x.count(1), 16);
        said.due("meeting()", x.meeting(), 24024);
        x.begin(2, 3);
        for (int box : NO_BOXES) {
            said.due("condition(" + box + ")", x.condition(box), BAD);
        }
        for (int at = 0; at < THE_BOXES.length; at++) {
            said.due("condition(" + THE_BOXES[at] + ")", x.condition(THE_BOXES[at]), at + 1);
        }
    }

    private void numberOfTheList() {
        said.name("Terms", "Its NUMBER: the BOX 0 .. 0 once, then with each BOX b of THE LIST in order: each BOX a that"
                + " there is so often becomes each BOX c so often as there are FILLINGS of c over a by b; in the end how"
                + " often there is the BOX with all figures m.");
        for (int k = 1; k <= 4; k++) {
            for (int m = 1; m <= 4; m++) {
                int whole = Integer.parseInt(String.valueOf(m).repeat(k));
                int one = (int) Math.pow(10, k - 1);
                said.due("none of " + k + ", " + m, list(k, m, 0, 0).meeting(), 0);
                said.due("one of nothing, " + k + ", " + m, list(k, m, 1, 0).meeting(), 0);
                said.due("16 of nothing, " + k + ", " + m, list(k, m, 16, 0).meeting(), 0);
                said.due("one of the whole, " + k + ", " + m, list(k, m, 1, whole).meeting(), 1);
                said.due("two of the whole, " + k + ", " + m, list(k, m, 2, whole).meeting(), 0);
                said.due("one too few of 1, " + k + ", " + m, list(k, m, k * m - 1, one).meeting(), 0);
                said.holds("as many of 1 as places, " + k + ", " + m, list(k, m, k * m, one).meeting() >= 1);
                if (k * m < 16) {
                    said.due("one too many of 1, " + k + ", " + m, list(k, m, k * m + 1, one).meeting(), 0);
                }
            }
        }
        MeetHouse x = list(4, 4, 15, 0);
        x.condition(4444);
        said.due("15 of nothing, then the whole", x.meeting(), 1);
        said.due("2, 2: four", list(2, 2, 4, 10).meeting(), 2);
        said.due("3, 3: nine", list(3, 3, 9, 100).meeting(), 42);
        said.due("4, 4: eight of 2", list(4, 4, 8, 2000).meeting(), list(4, 4, 8, 1100).meeting());
    }

    private void strip() {
        said.name(21, "The i-th (from 0), by rising numbers,");
        MeetHouse x = new MeetHouse();
        strips(x, 4, 4, 2100, 1, 2110, 2200, 3100);
        strips(x, 4, 4, 2100, 2, 2210, 3110, 3200, 4100);
        strips(x, 3, 3, 321, 1, 322, 331);
        for (int i : new int[] {Integer.MIN_VALUE, -2, -1, 3, 4, 10, Integer.MAX_VALUE}) {
            said.due("strip(4, 4, 2100, 1, " + i + ")", x.strip(4, 4, 2100, 1, i), NONE);
        }
        said.name(21, "STRIP of p (0 to 16) on a BOX of k rows, m columns.");
        int[] due = {3210, 3211, 3221, 3321, 4321};
        for (int p = 0; p <= 16; p++) {
            said.due("strip(4, 4, 3210, " + p + ", 0)", x.strip(4, 4, 3210, p, 0), p < due.length ? due[p] : NONE);
            said.due("strip(4, 4, 4444, " + p + ", 0)", x.strip(4, 4, 4444, p, 0), p == 0 ? 4444 : NONE);
        }
        for (int p : new int[] {Integer.MIN_VALUE, -16, -1, 17, 18, Integer.MAX_VALUE}) {
            said.due("strip(4, 4, 3210, " + p + ", 0)", x.strip(4, 4, 3210, p, 0), BAD);
            said.due("strip(1, 1, 0, " + p + ", -1)", x.strip(1, 1, 0, p, -1), BAD);
        }
    }

    private void stripRefused() {
        said.name(21, "BAD;");
        MeetHouse x = new MeetHouse();
        for (int side : Houses.NO_SIDES) {
            said.due("strip(" + side + ", 2, 0, 0, 0)", x.strip(side, 2, 0, 0, 0), BAD);
            said.due("strip(2, " + side + ", 0, 0, 0)", x.strip(2, side, 0, 0, 0), BAD);
            said.due("strip(2, " + side + ", 0, 0, -1)", x.strip(2, side, 0, 0, -1), BAD);
        }
        for (int side = 1; side <= 4; side++) {
            said.due("strip(" + side + ", 2, 0, 0, 0)", x.strip(side, 2, 0, 0, 0), 0);
            said.due("strip(2, " + side + ", 0, 0, 0)", x.strip(2, side, 0, 0, 0), 0);
        }
        for (int box : NO_BOXES) {
            said.due("strip(2, 3, " + box + ", 0, 0)", x.strip(2, 3, box, 0, 0), BAD);
            said.due("strip(2, 3, " + box + ", 0, -1)", x.strip(2, 3, box, 0, -1), BAD);
        }
        said.name(21, "NONE.");
        for (int box : THE_BOXES) {
            said.due("strip(2, 3, " + box + ", 0, 0)", x.strip(2, 3, box, 0, 0), box);
            said.due("strip(2, 3, " + box + ", 0, 1)", x.strip(2, 3, box, 0, 1), NONE);
            said.due("strip(2, 3, " + box + ", 0, -1)", x.strip(2, 3, box, 0, -1), NONE);
            said.due("strip(2, 3, " + box + ", 16, 0)", x.strip(2, 3, box, 16, 0), NONE);
        }
    }

    private void fillings() {
        said.name(22, "How many FILLINGS of c over a by b there are");
        filled(new int[][] {{3, 3, 210, 210, 321, 2}, {4, 4, 2100, 2100, 3210, 2}, {4, 4, 3210, 3210, 4431, 3},
            {2, 2, 0, 0, 0, 1}, {2, 2, 0, 0, 10, 0}, {2, 2, 0, 10, 0, 0}, {4, 4, 0, 4444, 4444, 1},
            {4, 4, 4444, 4444, 4444, 0}});
        said.name(22, "(0, if some figure of a is above that of c).");
        filled(new int[][] {{2, 2, 21, 0, 20, 0}, {2, 2, 20, 0, 20, 1}, {2, 2, 20, 0, 11, 0}, {2, 2, 11, 0, 20, 0},
            {2, 2, 11, 0, 11, 1}, {2, 2, 11, 10, 20, 0}, {2, 2, 11, 10, 21, 1}, {2, 2, 22, 0, 0, 0},
            {4, 4, 1111, 1000, 3110, 0}, {4, 4, 1110, 2000, 3110, 1}, {4, 4, 4000, 0, 3100, 0}, {3, 3, 300, 0, 210, 0}});
    }

    private void fillingsRefused() {
        MeetHouse x = new MeetHouse();
        said.name(22, "BAD: k, m,");
        for (int side : Houses.NO_SIDES) {
            said.due("fillings(" + side + ", 2, 0, 0, 0)", x.fillings(side, 2, 0, 0, 0), BAD);
            said.due("fillings(2, " + side + ", 0, 0, 0)", x.fillings(2, side, 0, 0, 0), BAD);
        }
        for (int side = 1; side <= 4; side++) {
            said.due("fillings(" + side + ", 2, 0, 0, 0)", x.fillings(side, 2, 0, 0, 0), 1);
            said.due("fillings(2, " + side + ", 0, 0, 0)", x.fillings(2, side, 0, 0, 0), 1);
        }
        said.name(22, "BOXES.");
        for (int box : NO_BOXES) {
            said.due("fillings(2, 3, " + box + ", 0, 33)", x.fillings(2, 3, box, 0, 33), BAD);
            said.due("fillings(2, 3, 0, " + box + ", 33)", x.fillings(2, 3, 0, box, 33), BAD);
            said.due("fillings(2, 3, 33, 0, " + box + ")", x.fillings(2, 3, 33, 0, box), BAD);
        }
        for (int box : THE_BOXES) {
            said.due("fillings(2, 3, " + box + ", 0, " + box + ")", x.fillings(2, 3, box, 0, box), 1);
            said.due("fillings(2, 3, 0, " + box + ", " + box + ")", x.fillings(2, 3, 0, box, box), 1);
        }
    }

    private void orderOf() {
        MeetHouse x = new MeetHouse();
        said.name(23, "The ORDER of k + m (5 at most)");
        for (int k = 1; k <= 4; k++) {
            for (int m = 1; m <= 4; m++) {
                int first = 12345 / (int) Math.pow(10, Math.max(0, 5 - k - m));
                said.due("orderOf(" + k + ", " + m + ", 0)", x.orderOf(k, m, 0), k + m > 5 ? BAD : first);
            }
        }
        said.name(23, "that goes with a BOX: its i-th figure, i up to k, is i and the (k + 1 - i)-th figure of the BOX;"
                + " the others rise behind.");
        int[][] due = {{1, 1, 1, 21}, {1, 4, 1, 21345}, {1, 4, 4, 51234}, {4, 1, 1000, 12354}, {4, 1, 1111, 23451},
            {2, 2, 10, 1324}, {2, 2, 22, 3412}, {2, 3, 33, 45123}, {2, 3, 30, 15234}, {3, 2, 222, 34512},
            {3, 2, 200, 12534}, {3, 2, 210, 13524}, {2, 3, 31, 25134}};
        for (int[] row : due) {
            said.due("orderOf(" + row[0] + ", " + row[1] + ", " + row[2] + ")", x.orderOf(row[0], row[1], row[2]),
                    row[3]);
        }
        said.name(23, "BAD.");
        for (int side : Houses.NO_SIDES) {
            said.due("orderOf(" + side + ", 1, 0)", x.orderOf(side, 1, 0), BAD);
            said.due("orderOf(1, " + side + ", 0)", x.orderOf(1, side, 0), BAD);
        }
        said.due("orderOf(-1, 4, 0), 3 together", x.orderOf(-1, 4, 0), BAD);
        said.due("orderOf(0, 5, 0), 5 together", x.orderOf(0, 5, 0), BAD);
        said.due("orderOf(5, 0, 0), 5 together", x.orderOf(5, 0, 0), BAD);
        for (int box : NO_BOXES) {
            said.due("orderOf(2, 3, " + box + ")", x.orderOf(2, 3, box), BAD);
        }
        for (int box : THE_BOXES) {
            said.holds("orderOf(2, 3, " + box + ")", x.length(x.orderOf(2, 3, box)) == box / 10 + box % 10);
        }
    }

    private void begin() {
        said.name(24, "THE LIST is begun, of k rows, m columns: how many BOXES were gone.");
        for (int k = 1; k <= 4; k++) {
            for (int m = 1; m <= 4; m++) {
                MeetHouse x = new MeetHouse();
                said.due("none was gone", x.begin(k, m), 0);
                said.due("rows", x.count(2), k);
                said.due("columns", x.count(3), m);
                said.due("a box", x.condition(0), 1);
                said.due("one is gone", x.begin(m, k), 1);
                said.due("none is left", x.count(1), 0);
                said.due("none was gone", x.begin(k, m), 0);
                said.due("the number", x.meeting(), 0);
            }
        }
        MeetHouse x = list(2, 3, 16, 33);
        said.due("16 are gone", x.begin(2, 3), 16);
        said.due("none is left", x.count(1), 0);
        said.due("a first again", x.condition(10), 1);
        said.name(24, "BAD.");
        for (int side : Houses.NO_SIDES) {
            said.due("begin(" + side + ", 3)", x.begin(side, 3), BAD);
            said.due("begin(2, " + side + ")", x.begin(2, side), BAD);
            said.due("count(1)", x.count(1), 1);
            said.due("count(2)", x.count(2), 2);
            said.due("count(3)", x.count(3), 3);
        }
    }

    private void condition() {
        said.name(25, "A BOX more in THE LIST: how many.");
        MeetHouse x = new MeetHouse();
        x.begin(2, 3);
        for (int at = 1; at <= 16; at++) {
            said.due("the " + at + "th", x.condition(THE_BOXES[at % 10]), at);
            said.due("count(1)", x.count(1), at);
        }
        said.name(25, "BAD;");
        for (int box : NO_BOXES) {
            said.due("condition(" + box + "), ahead of FULL", x.condition(box), BAD);
        }
        said.name(25, "FULL.");
        long before = x.digest();
        for (int box : THE_BOXES) {
            said.due("condition(" + box + ")", x.condition(box), FULL);
        }
        said.due("digest()", x.digest(), before);
        x.begin(4, 4);
        said.due("condition(4444)", x.condition(4444), 1);
        said.due("condition(4445)", x.condition(4445), BAD);
        x.begin(1, 1);
        said.due("condition(0)", x.condition(0), 1);
        said.due("condition(1)", x.condition(1), 2);
        said.due("condition(2)", x.condition(2), BAD);
        said.due("condition(10)", x.condition(10), BAD);
    }

    private void meeting() {
        said.name(26, "The NUMBER of THE LIST.");
        MeetHouse x = new MeetHouse();
        said.due("empty", x.meeting(), 0);
        int[] due = {0, 0, 0, 2, 0, 0};
        for (int at = 0; at < due.length; at++) {
            x.condition(10);
            said.due("of 10, " + (at + 1) + " times", x.meeting(), due[at]);
            said.due("once more", x.meeting(), due[at]);
        }
        x.begin(2, 2);
        said.due("empty again", x.meeting(), 0);
        x = list(4, 4, 16, 1000);
        said.due("full", x.meeting(), 24024);
        x.condition(1000);
        said.due("after FULL", x.meeting(), 24024);
        x = list(1, 1, 16, 0);
        said.due("full of nothing", x.meeting(), 0);
        x = list(1, 1, 15, 0);
        x.condition(1);
        said.due("full, with one", x.meeting(), 1);
    }
}
