/** Houses in told states. An object is for 512 calls: each test makes its own. */
final class Houses {
    static final int NONE = -1, BAD = -2, NULL = -3, HIGH = -4, GREAT = -5, LONG = -6, FULL = -7;
    static final long BAD_LONG = Long.MIN_VALUE + 2, NULL_LONG = Long.MIN_VALUE + 3;
    static final long GREAT_LONG = Long.MIN_VALUE + 5, LONG_LONG = Long.MIN_VALUE + 6;
    static final int MOST = 100000000;

    static final int[] NO_SHEETS = {Integer.MIN_VALUE, -12, -1, 12, 13, 16, 256, Integer.MAX_VALUE};
    static final int[] NO_LETTERS = {Integer.MIN_VALUE, -1, 0, 5, 6, Integer.MAX_VALUE};
    static final int[] NO_EXPONENTS = {Integer.MIN_VALUE, -10000, -1, 9, 90, 900, 9000, 90000, 88889, 88898, 88988, 89888,
        98888, 99999, 100000, 188888, Integer.MAX_VALUE};
    static final int[] NO_SIDES = {Integer.MIN_VALUE, -1, 0, 5, 6, Integer.MAX_VALUE};
    static final int[] NO_RODS = {Integer.MIN_VALUE, -1, 8, 9, 16, Integer.MAX_VALUE};
    static final int[] ORDERS = {1, 12, 21, 123, 213, 321, 1234, 2143, 4321, 12345, 21543, 54321};
    static final int[] NO_ORDERS = {Integer.MIN_VALUE, -54321, -21, -12, -1, 0, 2, 3, 9, 10, 11, 13, 20, 22, 23, 31, 102,
        112, 120, 121, 124, 133, 320, 322, 1023, 1124, 1230, 1235, 4322, 4421, 5432, 10234, 11345, 12340, 12344,
        12346, 12436, 54320, 54322, 55321, 65432, 123456, 654321, 1234567, Integer.MAX_VALUE};

    private Houses() {
    }

    /** A house whose sheet has terms: number, exponents, number, exponents .. */
    static MeetHouse with(int sheet, long... terms) {
        MeetHouse x = new MeetHouse();
        put(x, sheet, terms);
        return x;
    }

    static void put(MeetHouse x, int sheet, long... terms) {
        x.blank(sheet);
        for (int at = 0; at + 1 < terms.length; at += 2) {
            x.add(sheet, terms[at], (int) terms[at + 1]);
        }
    }

    /** The sheet gets each term with exponents up to the figures that are told, with number 1; sheet 11 is LOST then. */
    static void grid(MeetHouse x, int sheet, int most) {
        put(x, sheet, 1, 0);
        for (int letter = 1; letter <= 10000; letter *= 10) {
            int top = most / letter % 10;
            if (top > 0) {
                x.blank(11);
                for (int exponent = 0; exponent <= top; exponent++) {
                    x.add(11, 1, exponent * letter);
                }
                x.product(sheet, sheet, 11);
                x.lose(11);
            }
        }
    }

    /** The sheet has 600 terms: exponents up to 4, 4, 3, 5 of letters 1 to 4. */
    static MeetHouse full(int sheet) {
        MeetHouse x = new MeetHouse();
        grid(x, sheet, 44350);
        return x;
    }

    /** The sheet has just these terms in this order, told as for put. */
    static void has(Sentences said, MeetHouse x, int sheet, long... terms) {
        said.due("terms(" + sheet + ")", x.terms(sheet), terms.length / 2);
        for (int at = 0; at + 1 < terms.length; at += 2) {
            said.due("exponents(" + sheet + ", " + at / 2 + ")", x.exponents(sheet, at / 2), terms[at + 1]);
            said.due("number(" + sheet + ", " + terms[at + 1] + ")", x.number(sheet, (int) terms[at + 1]), terms[at]);
        }
        said.due("exponents behind the last", x.exponents(sheet, terms.length / 2), BAD);
    }
}
