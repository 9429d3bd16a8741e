/** What the document says of SHEETS, and promises 7 to 12: calls on both sides of each boundary. */
final class SheetBoundaries {
    private static final int BAD = Houses.BAD, NULL = Houses.NULL, GREAT = Houses.GREAT, LONG = Houses.LONG;
    private static final int MOST = Houses.MOST;

    private final Sentences said;

    SheetBoundaries(Sentences said) {
        this.said = said;
    }

    void all() {
        sheets();
        letters();
        numbers();
        exponentsOfLetters();
        noTwoAlike();
        sixHundred();
        told();
        stand();
        blank();
        lose();
        add();
        addRefused();
        addTooMuch();
        terms();
        exponents();
        number();
    }

    private void sheets() {
        said.name("Terms", "SHEETS 0 .. 11 are LOST (at first)");
        for (int sheet : new int[] {0, 1, 10, 11}) {
            MeetHouse x = Houses.with(5, 1, 0);
            said.due("terms(" + sheet + ")", x.terms(sheet), NULL);
            said.due("exponents(" + sheet + ", 0)", x.exponents(sheet, 0), NULL);
            said.due("number(" + sheet + ", 0)", x.number(sheet, 0), Houses.NULL_LONG);
            said.due("add(" + sheet + ", 1, 0)", x.add(sheet, 1, 0), NULL);
            said.due("lose(" + sheet + ")", x.lose(sheet), NULL);
            said.due("same(" + sheet + ", 5)", x.same(sheet, 5), NULL);
            said.due("sum(5, 5, " + sheet + ", 1)", x.sum(5, 5, sheet, 1), NULL);
            said.due("product(5, " + sheet + ", 5)", x.product(5, sheet, 5), NULL);
            said.due("turned(5, " + sheet + ", 1)", x.turned(5, sheet, 1), NULL);
            said.due("difference(5, " + sheet + ", 1)", x.difference(5, sheet, 1), NULL);
            said.due("part(" + sheet + ", 1)", x.part(sheet, 1), Houses.NULL_LONG);
            said.due("sum(" + sheet + ", 5, 5, 1)", x.sum(sheet, 5, 5, 1), 1);
            said.due("terms(" + sheet + ")", x.terms(sheet), 1);
        }
        for (int sheet : Houses.NO_SHEETS) {
            MeetHouse x = Houses.with(5, 1, 0);
            said.due("terms(" + sheet + ")", x.terms(sheet), BAD);
            said.due("exponents(" + sheet + ", 0)", x.exponents(sheet, 0), BAD);
            said.due("number(" + sheet + ", 0)", x.number(sheet, 0), Houses.BAD_LONG);
            said.due("add(" + sheet + ", 1, 0)", x.add(sheet, 1, 0), BAD);
            said.due("blank(" + sheet + ")", x.blank(sheet), BAD);
            said.due("lose(" + sheet + ")", x.lose(sheet), BAD);
            said.due("count(0)", x.count(0), 1);
        }
    }

    private void letters() {
        said.name("Terms", "or have a POLYNOMIAL in LETTERS 1 .. 5:");
        MeetHouse x = Houses.with(0, 1, 10000, 2, 1000, 3, 100, 4, 10, 5, 1);
        Houses.has(said, x, 0, 1, 10000, 2, 1000, 3, 100, 4, 10, 5, 1);
        said.due("a sixth, ahead", x.add(0, 6, 100000), BAD);
        said.due("from letter 1 to letter 5", x.turned(1, 0, 1), 5);
        for (int i = 2; i <= 4; i++) {
            x.turned(1, 1, i);
        }
        Houses.has(said, x, 1, 2, 10000, 3, 1000, 4, 100, 5, 10, 1, 1);
        said.due("turned(1, 0, 5)", x.turned(1, 0, 5), BAD);
    }

    private void numbers() {
        said.name("Terms", "TERMS, each a NUMBER (not 0, at most 100000000 in amount)");
        MeetHouse x = Houses.with(0, 1, 0, -1, 10);
        said.due("1 less 1", x.add(0, -1, 0), 1);
        said.due("0 less 1", x.add(0, -1, 0), 2);
        said.due("-1 and 1", x.add(0, 1, 10), 1);
        Houses.has(said, x, 0, -1, 0);
        said.due("of itself less itself", x.sum(0, 0, 0, -1), 0);
        Houses.has(said, x, 0);
        for (int sign = -1; sign <= 1; sign += 2) {
            Houses.put(x, 1, sign * (MOST - 1L), 0);
            said.due("one less than the most", x.terms(1), 1);
            said.due("one more, the most", x.add(1, sign, 0), 1);
            said.due("one more yet", x.add(1, sign, 0), GREAT);
            Houses.has(said, x, 1, sign * (long) MOST, 0);
            said.due("the most at once", x.add(1, sign * (long) MOST, 1), 2);
            said.due("more at once", x.add(1, sign * (MOST + 1L), 2), BAD);
            said.due("the least amount", x.add(1, sign, 2), 3);
            Houses.has(said, x, 1, sign, 2, sign * (long) MOST, 1, sign * (long) MOST, 0);
        }
    }

    private void exponentsOfLetters() {
        said.name("Terms", "with an EXPONENT 0 .. 8 of each LETTER,");
        for (int letter = 1; letter <= 10000; letter *= 10) {
            MeetHouse x = Houses.with(0, 1, 0);
            for (int exponent = 1; exponent <= 8; exponent++) {
                said.due("add(0, 1, " + exponent * letter + ")", x.add(0, 1, exponent * letter), exponent + 1);
            }
            said.due("add(0, 1, " + 9 * letter + ")", x.add(0, 1, 9 * letter), BAD);
            said.due("number(0, " + 8 * letter + ")", x.number(0, 8 * letter), 1);
            said.due("number(0, " + 9 * letter + ")", x.number(0, 9 * letter), Houses.BAD_LONG);
            said.due("with 8 of all others: " + (88888 + letter), x.add(0, 1, 88888 + letter), BAD);
            said.due("terms(0)", x.terms(0), 9);
        }
    }

    private void noTwoAlike() {
        said.name("Terms", "no two alike in these,");
        MeetHouse x = Houses.with(0, 3, 12345);
        said.due("the same", x.add(0, 4, 12345), 1);
        said.due("the next", x.add(0, 4, 12346), 2);
        said.due("the same as the next", x.add(0, 4, 12346), 2);
        Houses.has(said, x, 0, 8, 12346, 7, 12345);
        Houses.put(x, 1, 1, 10000, 1, 1000);
        said.due("a square: two come together", x.product(1, 1, 1), 3);
        Houses.has(said, x, 1, 1, 20000, 2, 11000, 1, 2000);
        said.due("a sum of the same", x.sum(2, 1, 1, 1), 3);
        Houses.has(said, x, 2, 2, 20000, 4, 11000, 2, 2000);
    }

    private void sixHundred() {
        said.name("Terms", "600 at most.");
        MeetHouse x = Houses.full(3);
        said.due("600 terms", x.terms(3), 600);
        said.due("the last of them", x.exponents(3, 599), 0);
        said.due("behind the last", x.exponents(3, 600), BAD);
        said.due("one less", x.add(3, -1, 0), 599);
        said.due("the 600th", x.add(3, 1, 8), 600);
        said.due("the 601st", x.add(3, 1, 7), LONG);
        said.due("600 terms", x.terms(3), 600);
        said.due("it has not come", x.number(3, 7), 0);
        said.due("two sheets may have them", x.sum(4, 3, 3, 1), 600);
        said.due("so may all", x.product(5, 3, putOne(x)), 600);
    }

    /** Sheet 6 is 1. */
    private static int putOne(MeetHouse x) {
        Houses.put(x, 6, 1, 0);
        return 6;
    }

    private void told() {
        said.name("Terms", "EXPONENTS are told as five decimal figures (21000: of LETTER 1 it is 2);");
        MeetHouse x = Houses.with(0, 1, 0, 2, 88888, 3, 21000);
        Houses.has(said, x, 0, 2, 88888, 3, 21000, 1, 0);
        said.due("difference by 1 of 21000", Houses.with(0, 1, 21000).difference(0, 0, 1), 1);
        for (int exponents : Houses.NO_EXPONENTS) {
            said.due("add(0, 1, " + exponents + ")", x.add(0, 1, exponents), BAD);
            said.due("number(0, " + exponents + ")", x.number(0, exponents), Houses.BAD_LONG);
        }
        said.due("88888 is the last", x.number(0, 88888), 2);
        said.due("0 is the first", x.number(0, 0), 1);
    }

    private void stand() {
        said.name("Terms", "TERMS stand by these, the greatest first.");
        MeetHouse x = Houses.with(0, 1, 1, 2, 88888, 3, 10000, 4, 8888, 5, 0, 6, 10, 7, 8, 8, 80000, 9, 78888);
        Houses.has(said, x, 0, 2, 88888, 8, 80000, 9, 78888, 3, 10000, 4, 8888, 6, 10, 7, 8, 1, 1, 5, 0);
        x.turned(0, 0, 4);
        Houses.has(said, x, 0, 2, 88888, 8, 80000, 9, 78888, 3, 10000, 4, 8888, 7, 80, 1, 10, 6, 1, 5, 0);
    }

    private void blank() {
        said.name(7, "A SHEET becomes the POLYNOMIAL without TERMS: 1.");
        for (int sheet = 0; sheet <= 11; sheet++) {
            MeetHouse x = new MeetHouse();
            said.due("blank(" + sheet + "), LOST", x.blank(sheet), 1);
            said.due("terms(" + sheet + ")", x.terms(sheet), 0);
            said.due("count(0)", x.count(0), 1);
            said.due("blank(" + sheet + ") again", x.blank(sheet), 1);
            x.add(sheet, 1, 5);
            said.due("blank(" + sheet + "), a term", x.blank(sheet), 1);
            Houses.has(said, x, sheet);
            said.due("number(" + sheet + ", 5)", x.number(sheet, 5), 0);
        }
        MeetHouse x = Houses.full(11);
        said.due("blank(11), 600 terms", x.blank(11), 1);
        Houses.has(said, x, 11);
        said.name(7, "BAD.");
        long before = x.digest();
        for (int sheet : Houses.NO_SHEETS) {
            said.due("blank(" + sheet + ")", x.blank(sheet), BAD);
        }
        said.due("digest()", x.digest(), before);
    }

    private void lose() {
        said.name(8, "A SHEET is LOST: how many TERMS it had.");
        for (int sheet = 0; sheet <= 11; sheet++) {
            MeetHouse x = Houses.with(sheet, 1, 5, 1, 6);
            x.blank((sheet + 1) % 12);
            said.due("lose(" + sheet + "), 2 terms", x.lose(sheet), 2);
            said.due("terms(" + sheet + ")", x.terms(sheet), NULL);
            said.due("the next one is not", x.terms((sheet + 1) % 12), 0);
            said.due("lose, no term", x.lose((sheet + 1) % 12), 0);
            said.due("count(0)", x.count(0), 0);
            said.due("blank", x.blank(sheet), 1);
            said.due("the terms do not come back", x.terms(sheet), 0);
        }
        MeetHouse x = Houses.full(2);
        said.due("lose(2), 600 terms", x.lose(2), 600);
        x.blank(2);
        said.name(8, "BAD;");
        for (int sheet : Houses.NO_SHEETS) {
            said.due("lose(" + sheet + ")", x.lose(sheet), BAD);
        }
        said.name(8, "NULL.");
        said.due("lose(2)", x.lose(2), 0);
        said.due("lose(2) again", x.lose(2), NULL);
        said.due("lose(0)", x.lose(0), NULL);
    }

    private void add() {
        said.name(9, "number times LETTERS with EXPONENTS comes to a SHEET: how many TERMS it has.");
        MeetHouse x = Houses.with(0);
        said.due("0 to no terms", x.add(0, 0, 11111), 0);
        said.due("the first", x.add(0, 2, 11111), 1);
        said.due("0 to it", x.add(0, 0, 11111), 1);
        said.due("0 beside it", x.add(0, 0, 11112), 1);
        said.due("the second, ahead", x.add(0, -3, 88888), 2);
        said.due("the third, behind", x.add(0, 4, 0), 3);
        said.due("the fourth, between", x.add(0, 5, 11110), 4);
        Houses.has(said, x, 0, -3, 88888, 2, 11111, 5, 11110, 4, 0);
        said.due("the first goes", x.add(0, 3, 88888), 3);
        said.due("the last goes", x.add(0, -4, 0), 2);
        said.due("one becomes 1", x.add(0, -1, 11111), 2);
        Houses.has(said, x, 0, 1, 11111, 5, 11110);
        said.due("it goes", x.add(0, -1, 11111), 1);
        said.due("none is left", x.add(0, -5, 11110), 0);
    }

    private void addRefused() {
        MeetHouse x = Houses.with(0, 1, 0);
        x.blank(11);
        long before = x.digest();
        said.name(9, "BAD: the SHEET,");
        for (int sheet : Houses.NO_SHEETS) {
            said.due("add(" + sheet + ", 1, 1)", x.add(sheet, 1, 1), BAD);
        }
        said.name(9, "number beyond,");
        for (long number : new long[] {MOST + 1L, -MOST - 1L, 2L * MOST, Integer.MAX_VALUE, Integer.MIN_VALUE, 1L << 32,
            (1L << 32) + 1, -(1L << 32), Long.MAX_VALUE, Long.MIN_VALUE, Long.MIN_VALUE + 1}) {
            said.due("add(0, " + number + ", 1)", x.add(0, number, 1), BAD);
            said.due("add(1, " + number + ", 1), LOST", x.add(1, number, 1), BAD);
        }
        said.name(9, "EXPONENTS (five figures 0 .. 8);");
        for (int exponents : Houses.NO_EXPONENTS) {
            said.due("add(0, 1, " + exponents + ")", x.add(0, 1, exponents), BAD);
            said.due("add(1, 1, " + exponents + "), LOST", x.add(1, 1, exponents), BAD);
        }
        said.name(9, "NULL;");
        said.due("add(1, 1, 1)", x.add(1, 1, 1), NULL);
        said.due("add(1, 0, 0)", x.add(1, 0, 0), NULL);
        said.due("digest()", x.digest(), before);
        said.due("add(0, 100000000, 1)", x.add(0, MOST, 1), 2);
        said.due("add(0, -100000000, 88888)", x.add(0, -MOST, 88888), 3);
        said.due("add(11, 1, 88888)", x.add(11, 1, 88888), 1);
    }

    private void addTooMuch() {
        said.name(9, "GREAT;");
        for (int sign = -1; sign <= 1; sign += 2) {
            MeetHouse x = Houses.with(0, sign * 60000000, 12345, 7, 0);
            said.due("40000001 more", x.add(0, sign * 40000001, 12345), GREAT);
            said.due("as it was", x.number(0, 12345), sign * 60000000);
            said.due("40000000 more", x.add(0, sign * 40000000, 12345), 2);
            said.due("100000000 more", x.add(0, sign * MOST, 12345), GREAT);
            said.due("1 more", x.add(0, sign, 12345), GREAT);
            said.due("0 more", x.add(0, 0, 12345), 2);
            said.due("1 less", x.add(0, -sign, 12345), 2);
            said.due("100000000 less", x.add(0, -sign * MOST, 12345), 2);
            Houses.has(said, x, 0, -sign, 12345, 7, 0);
        }
        said.name(9, "LONG.");
        MeetHouse x = Houses.full(0);
        long before = x.digest();
        said.due("the 601st, ahead", x.add(0, 1, 88888), LONG);
        said.due("the 601st, between", x.add(0, 1, 1), LONG);
        said.due("0 of it", x.add(0, 0, 1), 600);
        said.due("digest()", x.digest(), before);
        said.due("to one of the 600", x.add(0, MOST - 1, 44350), 600);
        said.due("that is GREAT", x.add(0, 1, 44350), GREAT);
        said.due("one of the 600 goes", x.add(0, -MOST, 44350), 599);
        said.due("the 600th", x.add(0, 1, 88888), 600);
        said.due("the 601st", x.add(0, 1, 44350), LONG);
    }

    private void terms() {
        said.name(10, "How many TERMS.");
        MeetHouse x = Houses.full(0);
        x.blank(11);
        said.due("terms(0)", x.terms(0), 600);
        said.due("terms(11)", x.terms(11), 0);
        x.add(11, 1, 1);
        said.due("terms(11)", x.terms(11), 1);
        said.name(10, "BAD;");
        for (int sheet : Houses.NO_SHEETS) {
            said.due("terms(" + sheet + ")", x.terms(sheet), BAD);
        }
        said.name(10, "NULL.");
        said.due("terms(1)", x.terms(1), NULL);
        x.lose(11);
        said.due("terms(11)", x.terms(11), NULL);
    }

    private void exponents() {
        said.name(11, "EXPONENTS of TERM t (from 0).");
        MeetHouse x = Houses.full(1);
        said.due("exponents(1, 0)", x.exponents(1, 0), 44350);
        said.due("exponents(1, 1)", x.exponents(1, 1), 44340);
        said.due("exponents(1, 598)", x.exponents(1, 598), 10);
        said.due("exponents(1, 599)", x.exponents(1, 599), 0);
        said.name(11, "BAD: also no such one;");
        x.blank(2);
        Houses.put(x, 3, 5, 77);
        for (int t : new int[] {Integer.MIN_VALUE, -1, 600, 601, Integer.MAX_VALUE}) {
            said.due("exponents(1, " + t + ")", x.exponents(1, t), BAD);
            said.due("exponents(2, " + t + ")", x.exponents(2, t), BAD);
            said.due("exponents(12, " + t + ")", x.exponents(12, t), BAD);
            said.due("exponents(-1, " + t + ")", x.exponents(-1, t), BAD);
        }
        said.due("exponents(2, 0), no term", x.exponents(2, 0), BAD);
        said.due("exponents(3, 0)", x.exponents(3, 0), 77);
        said.due("exponents(3, 1)", x.exponents(3, 1), BAD);
        for (int sheet : Houses.NO_SHEETS) {
            said.due("exponents(" + sheet + ", 0)", x.exponents(sheet, 0), BAD);
        }
        said.name(11, "NULL (ahead of that).");
        for (int t : new int[] {Integer.MIN_VALUE, -1, 0, 1, 600, Integer.MAX_VALUE}) {
            said.due("exponents(0, " + t + ")", x.exponents(0, t), NULL);
        }
    }

    private void number() {
        said.name(12, "The NUMBER with EXPONENTS; 0 without.");
        MeetHouse x = Houses.with(0, MOST, 88888, -MOST, 0, 5, 400, -6, 384);
        int[][] due = {{88888, MOST}, {88887, 0}, {401, 0}, {400, 5}, {388, 0}, {384, -6}, {383, 0}, {1, 0}, {0, -MOST}};
        for (int[] row : due) {
            said.due("number(0, " + row[0] + ")", x.number(0, row[0]), row[1]);
        }
        x.blank(1);
        said.due("number(1, 0), no term", x.number(1, 0), 0);
        said.due("number(1, 88888), no term", x.number(1, 88888), 0);
        said.name(12, "BAD;");
        for (int sheet : Houses.NO_SHEETS) {
            said.due("number(" + sheet + ", 0)", x.number(sheet, 0), Houses.BAD_LONG);
        }
        for (int exponents : Houses.NO_EXPONENTS) {
            said.due("number(0, " + exponents + ")", x.number(0, exponents), Houses.BAD_LONG);
            said.due("number(2, " + exponents + "), LOST", x.number(2, exponents), Houses.BAD_LONG);
        }
        said.name(12, "NULL.");
        said.due("number(2, 0)", x.number(2, 0), Houses.NULL_LONG);
        said.due("number(2, 88888)", x.number(2, 88888), Houses.NULL_LONG);
    }
}
