/** What the document says of polynomials that are made, and promises 13 to 20: calls on both sides of each boundary. */
final class MakingBoundaries {
    private static final int BAD = Houses.BAD, NULL = Houses.NULL, HIGH = Houses.HIGH;
    private static final int GREAT = Houses.GREAT, LONG = Houses.LONG, MOST = Houses.MOST;

    private final Sentences said;

    MakingBoundaries(Sentences said) {
        this.said = said;
    }

    void all() {
        exchangedAt();
        differenceBy();
        withoutARest();
        polynomialOfTheGreatest();
        polynomialByWhicheverStep();
        partWithoutSteps();
        partByTheLeastPlace();
        partOfNoExponents();
        high();
        highOfProductsAlone();
        great();
        tooLong();
        sum();
        sumRefused();
        sumTooMuch();
        product();
        productRefused();
        productTooMuch();
        turned();
        difference();
        differenceRefused();
        differenceTooMuch();
        polynomial();
        part();
        partTooMuch();
        constant();
        same();
    }

    private void exchangedAt() {
        said.name("Terms", "EXCHANGED at i (1 .. 4): LETTERS i and i + 1 change places.");
        int[] due = {BAD, 21345, 13245, 12435, 12354, BAD};
        for (int i = 0; i <= 5; i++) {
            MeetHouse x = Houses.with(0, 1, 12345);
            said.due("turned(1, 0, " + i + ")", x.turned(1, 0, i), due[i] == BAD ? BAD : 1);
            said.due("terms(1)", x.terms(1), due[i] == BAD ? NULL : 1);
            said.due("exponents(1, 0)", x.exponents(1, 0), due[i] == BAD ? NULL : due[i]);
        }
    }

    private void differenceBy() {
        said.name("Terms", "The DIFFERENCE by i: the POLYNOMIAL less that EXCHANGED at i, divided by (LETTER i less"
                + " LETTER i + 1),");
        int[] units = {0, 10000, 1000, 100, 10, 1};
        for (int i = 1; i <= 4; i++) {
            int one = units[i];
            int other = units[i + 1];
            MeetHouse x = Houses.with(0, 7, 0);
            said.due("neither: by " + i, x.difference(1, 0, i), 0);
            Houses.put(x, 0, 7, 8 * one + 8 * other);
            said.due("8 of both: by " + i, x.difference(1, 0, i), 0);
            Houses.put(x, 0, 7, one);
            x.difference(1, 0, i);
            Houses.has(said, x, 1, 7, 0);
            Houses.put(x, 0, 7, other);
            x.difference(1, 0, i);
            Houses.has(said, x, 1, -7, 0);
            Houses.put(x, 0, 7, 8 * one + 7 * other);
            x.difference(1, 0, i);
            Houses.has(said, x, 1, 7, 7 * one + 7 * other);
            Houses.put(x, 0, 7, 3 * other);
            x.difference(1, 0, i);
            Houses.has(said, x, 1, -7, 2 * one, -7, one + other, -7, 2 * other);
            Houses.put(x, 0, 7, 8 * one);
            said.due("8 of the one: by " + i, x.difference(1, 0, i), 8);
            Houses.put(x, 0, 7, 8 * other);
            said.due("8 of the other: by " + i, x.difference(1, 0, i), 8);
            said.due("its first", x.number(1, 7 * one), -7);
            said.due("its last", x.number(1, 7 * other), -7);
        }
    }

    private void withoutARest() {
        said.name("Terms", "which goes without a rest.");
        int[] units = {0, 10000, 1000, 100, 10, 1};
        for (int i = 1; i <= 4; i++) {
            MeetHouse x = Houses.with(0, 3, 8 * units[i], -2, 8 * units[i + 1], 5, 86420, 4, 2468, -9, 12345, 1, 0, 6,
                    88888);
            x.difference(1, 0, i);
            Houses.put(x, 2, 1, units[i], -1, units[i + 1]);
            said.holds("the product by " + i + " is made", x.product(3, 1, 2) >= 0);
            x.turned(4, 0, i);
            x.sum(5, 0, 4, -1);
            said.due("it is what was divided: by " + i, x.same(3, 5), 1);
        }
    }

    private void polynomialOfTheGreatest() {
        said.name("Terms", "THE POLYNOMIAL of an ORDER w of n: of n .. 1 it is one TERM, NUMBER 1, EXPONENTS n - 1, n - 2, .. ;");
        int[][] due = {{1, 0}, {21, 10000}, {321, 21000}, {4321, 32100}, {54321, 43210}};
        for (int[] row : due) {
            MeetHouse x = new MeetHouse();
            said.due("polynomial(0, " + row[0] + ")", x.polynomial(0, row[0]), 1);
            Houses.has(said, x, 0, 1, row[1]);
        }
        MeetHouse x = new MeetHouse();
        x.polynomial(0, 12);
        Houses.has(said, x, 0, 1, 0);
        x.polynomial(0, 12345);
        Houses.has(said, x, 0, 1, 0);
        x.polynomial(0, 54312);
        Houses.has(said, x, 0, 1, 43200);
    }

    private void polynomialByWhicheverStep() {
        said.name("Terms", "of w with its i-th figure below the next one it is the DIFFERENCE by i of that of w"
                + " EXCHANGED at i (by whichever i).");
        for (int n = 2; n <= 5; n++) {
            for (int order : Reference.allOrders(n)) {
                MeetHouse x = new MeetHouse();
                x.polynomial(0, order);
                for (int i = 1; i < n; i++) {
                    int other = x.exchange(order, i);
                    x.polynomial(1, other);
                    said.holds("difference by " + i + " of that of " + other, x.difference(1, 1, i) >= 0);
                    said.due(order + " by " + i, x.same(0, 1), other > order ? 1 : 0);
                }
            }
        }
    }

    private void partWithoutSteps() {
        said.name("Terms", "THE PART of a POLYNOMIAL by an ORDER w: while w has a figure above the next one:");
        MeetHouse x = Houses.with(0, MOST, 10000, -MOST, 1000, MOST, 100, -MOST, 10, MOST, 1, 17, 0);
        for (int order : new int[] {1, 12, 123, 1234, 12345}) {
            said.due("part(0, " + order + "), no step", x.part(0, order), 17);
        }
        for (int order : new int[] {21, 213, 132, 1243, 12354, 54321}) {
            said.due("part(0, " + order + ")", x.part(0, order), Houses.GREAT_LONG);
        }
    }

    private void partByTheLeastPlace() {
        said.name("Terms", "with the least place i of such a one, the POLYNOMIAL becomes its DIFFERENCE by i,"
                + " and w is EXCHANGED at i;");
        MeetHouse x = Houses.with(0, MOST, 10, -MOST, 1);
        said.due("part(0, 21354): by 1 nothing is left", x.part(0, 21354), 0);
        said.due("part(0, 12354): by 4 it is beyond", x.part(0, 12354), Houses.GREAT_LONG);
        Houses.put(x, 0, MOST, 10000, -MOST, 1000);
        said.due("part(0, 21354): by 1 it is beyond", x.part(0, 21354), Houses.GREAT_LONG);
        said.due("part(0, 12354): by 4 nothing is left", x.part(0, 12354), 0);
        Houses.put(x, 0, 3, 21000, 5, 12000, 7, 11100, 11, 20100);
        said.due("part(0, 321): by 1, 2, 1", x.part(0, 321), 3 - 5 - 11);
        said.due("part(0, 231): by 2, 1", x.part(0, 231), 0);
        Houses.put(x, 0, 3, 20000, 5, 11000, 7, 2000);
        said.due("part(0, 312): by 1, 2", x.part(0, 312), 3 - 7);
        said.due("part(0, 231): by 2, 1", x.part(0, 231), 5 - 7);
    }

    private void partOfNoExponents() {
        said.name("Terms", "then the NUMBER of the TERM without EXPONENTS (0 without one).");
        MeetHouse x = Houses.with(0, 4, 1, 9, 10000);
        said.due("part(0, 1), no such term", x.part(0, 1), 0);
        said.due("part(0, 21)", x.part(0, 21), 9);
        said.due("part(0, 213)", x.part(0, 213), 9);
        said.due("part(0, 132), nothing left", x.part(0, 132), 0);
        x.add(0, -MOST, 0);
        said.due("part(0, 1)", x.part(0, 1), -MOST);
        said.due("part(0, 12345)", x.part(0, 12345), -MOST);
        said.due("part(0, 21)", x.part(0, 21), 9);
        x.blank(1);
        said.due("part(1, 1), no term", x.part(1, 1), 0);
        said.due("part(1, 54321), no term", x.part(1, 54321), 0);
    }

    private void high() {
        said.name("Terms", "What is made may be too much: HIGH: a TERM of one and a TERM of the other have an EXPONENT"
                + " above 8 together");
        for (int letter = 1; letter <= 10000; letter *= 10) {
            for (int exponent = 0; exponent <= 8; exponent++) {
                MeetHouse x = Houses.with(0, 1, exponent * letter);
                Houses.put(x, 1, 1, (8 - exponent) * letter);
                said.due("8 of " + letter + " together", x.product(2, 0, 1), 1);
                Houses.has(said, x, 2, 1, 8 * letter);
                if (exponent > 0) {
                    Houses.put(x, 1, 1, (9 - exponent) * letter);
                    said.due("9 of " + letter + " together", x.product(2, 0, 1), HIGH);
                    said.due("9 of " + letter + " together", x.product(2, 1, 0), HIGH);
                    said.due("sheet 2 is as it was", x.exponents(2, 0), 8 * letter);
                }
            }
        }
        MeetHouse x = Houses.with(0, 1, 80808, 1, 0);
        Houses.put(x, 1, 1, 8080, 1, 0);
        said.due("8 of all letters", x.product(2, 0, 1), 4);
        said.due("16 of all letters", x.product(3, 2, 2), HIGH);
        Houses.put(x, 1, 1, 10, 1, 0);
        said.due("9 of none", x.product(3, 0, 1), 4);
        said.due("9 of letter 4", x.product(3, 2, 1), HIGH);
        Houses.put(x, 4, 1, 80000, 1, 1000);
        Houses.put(x, 5, 1, 8000, 1, 1);
        said.due("9 by the second and the first", x.product(3, 4, 5), HIGH);
        x.blank(6);
        said.due("no term of the other", x.product(3, 2, 6), 0);
    }

    private void highOfProductsAlone() {
        said.name("Terms", "(of products alone);");
        MeetHouse x = Houses.with(0, 1, 88888);
        said.due("sum(1, 0, 0, 8)", x.sum(1, 0, 0, 8), 1);
        said.due("turned(1, 0, 1)", x.turned(1, 0, 1), 1);
        said.due("difference(1, 0, 1)", x.difference(1, 0, 1), 0);
        said.due("add(0, 1, 88888)", x.add(0, 1, 88888), 1);
        said.due("part(0, 54321)", x.part(0, 54321), 0);
        said.due("constant(54321, 54321, 54321)", x.constant(54321, 54321, 54321), 0);
        said.due("product(1, 0, 0)", x.product(1, 0, 0), HIGH);
    }

    private void great() {
        said.name("Terms", "GREAT: a NUMBER of it is beyond;");
        for (int sign = -1; sign <= 1; sign += 2) {
            MeetHouse x = Houses.with(0, sign * 99999999, 5);
            Houses.put(x, 1, 1, 5);
            said.due("a sum of 100000000", x.sum(2, 0, 1, sign), 1);
            said.due("a sum of 100000001", x.sum(3, 2, 1, sign), GREAT);
            said.due("a sum of 99999998", x.sum(3, 0, 1, -sign), 1);
            said.due("100000000 by add", x.add(0, sign, 5), 1);
            said.due("100000001 by add", x.add(0, sign, 5), GREAT);
            Houses.put(x, 4, 10000, 10);
            Houses.put(x, 5, sign * 10000, 10);
            said.due("a product of 100000000", x.product(6, 4, 5), 1);
            x.add(5, sign, 10);
            said.due("a product of 100010000", x.product(6, 4, 5), GREAT);
            Houses.has(said, x, 6, sign * (long) MOST, 20);
            Houses.put(x, 7, sign * 50000000, 100, -sign * 50000000, 10, 3, 0);
            said.due("a difference of 100000000", x.difference(8, 7, 3), 1);
            x.add(7, sign, 100);
            said.due("a difference of 100000001", x.difference(8, 7, 3), GREAT);
            Houses.has(said, x, 8, sign * (long) MOST, 0);
            said.due("others have no part in it", x.difference(8, 7, 2), 1);
        }
    }

    private void tooLong() {
        said.name("Terms", "LONG: it has more than 600 TERMS.");
        MeetHouse x = Houses.full(0);
        Houses.put(x, 1, 1, 88888);
        Houses.put(x, 2, 1, 88888, -1, 0);
        said.due("a sum of 601 terms", x.sum(3, 0, 1, 1), LONG);
        said.due("a sum of 600 terms", x.sum(3, 0, 2, 1), 600);
        said.due("a 601st by add", x.add(3, 1, 0), LONG);
        x = sixHundredProduct();
        said.due("a product of 600 terms", x.product(4, 0, 3), 600);
        x.add(0, 1, 15);
        said.due("a product of 601 terms", x.product(4, 0, 3), LONG);
        said.due("sheet 4 has 600", x.terms(4), 600);
        x = sixHundredDifference();
        said.due("a difference of 600 terms", x.difference(4, 0, 4), 600);
        x.add(0, 1, 10410);
        said.due("a difference of 601 terms", x.difference(4, 0, 4), LONG);
        said.due("sheet 4 has 600", x.terms(4), 600);
    }

    /** Sheet 0 times sheet 3 (1 and letter 5) has 600 terms; with 15 one more in sheet 0 it has 601. */
    private static MeetHouse sixHundredProduct() {
        MeetHouse x = new MeetHouse();
        Houses.grid(x, 0, 77000);
        x.add(0, 1, 100);
        x.add(0, 1, 200);
        Houses.grid(x, 1, 7);
        x.product(0, 0, 1);
        for (int exponents = 10; exponents <= 14; exponents++) {
            x.add(0, 1, exponents);
        }
        Houses.put(x, 3, 1, 1, 1, 0);
        return x;
    }

    /** The difference by 4 of sheet 0 has 600 terms; with 10410 one more in sheet 0 it has 601. */
    private static MeetHouse sixHundredDifference() {
        MeetHouse x = new MeetHouse();
        Houses.grid(x, 0, 77000);
        for (int exponent = 1; exponent <= 8; exponent++) {
            x.add(0, 1, 100 * exponent);
        }
        x.add(0, 1, 10100);
        x.add(0, 1, 10200);
        x.add(0, 1, 10300);
        Houses.put(x, 1, 1, 80);
        x.product(0, 0, 1);
        return x;
    }

    private void sum() {
        said.name(13, "SHEET c becomes a and m times b: how many TERMS.");
        MeetHouse x = Houses.with(0, 1, 10000, 2, 1000, 3, 100);
        Houses.put(x, 1, 1, 10000, -1, 1000, 5, 1);
        said.due("m 2", x.sum(2, 0, 1, 2), 3);
        Houses.has(said, x, 2, 3, 10000, 3, 100, 10, 1);
        said.due("m 1", x.sum(2, 0, 1, 1), 4);
        Houses.has(said, x, 2, 2, 10000, 1, 1000, 3, 100, 5, 1);
        said.due("m 0", x.sum(2, 0, 1, 0), 3);
        Houses.has(said, x, 2, 1, 10000, 2, 1000, 3, 100);
        said.due("m -1", x.sum(2, 0, 1, -1), 3);
        Houses.has(said, x, 2, 3, 1000, 3, 100, -5, 1);
        x.blank(3);
        said.due("of no terms", x.sum(4, 3, 3, 7), 0);
        said.due("and no terms", x.sum(4, 0, 3, 7), 3);
        said.due("no terms and", x.sum(4, 3, 1, 7), 3);
        Houses.has(said, x, 4, 7, 10000, -7, 1000, 35, 1);
        said.due("c is a", x.sum(0, 0, 1, -1), 3);
        Houses.has(said, x, 0, 3, 1000, 3, 100, -5, 1);
        said.due("c is b", x.sum(1, 0, 1, 3), 3);
        Houses.has(said, x, 1, 3, 10000, 3, 100, 10, 1);
        said.due("c is both", x.sum(1, 1, 1, 4), 3);
        Houses.has(said, x, 1, 15, 10000, 15, 100, 50, 1);
        said.due("less itself", x.sum(1, 1, 1, -1), 0);
    }

    private void sumRefused() {
        MeetHouse x = Houses.with(0, 1, 10000);
        said.name(13, "BAD: SHEETS,");
        for (int sheet : Houses.NO_SHEETS) {
            said.due("sum(" + sheet + ", 0, 0, 1)", x.sum(sheet, 0, 0, 1), BAD);
            said.due("sum(1, " + sheet + ", 0, 1)", x.sum(1, sheet, 0, 1), BAD);
            said.due("sum(1, 0, " + sheet + ", 1)", x.sum(1, 0, sheet, 1), BAD);
            said.due("sum(1, 0, " + sheet + ", 0)", x.sum(1, 0, sheet, 0), BAD);
        }
        said.name(13, "m (-1000000 to 1000000);");
        for (int m : new int[] {Integer.MIN_VALUE, -1000001, 1000001, Integer.MAX_VALUE}) {
            said.due("sum(1, 0, 0, " + m + ")", x.sum(1, 0, 0, m), BAD);
            said.due("sum(1, 2, 3, " + m + "), LOST", x.sum(1, 2, 3, m), BAD);
        }
        said.due("terms(1)", x.terms(1), NULL);
        said.due("sum(1, 0, 0, 1000000)", x.sum(1, 0, 0, 1000000), 1);
        Houses.has(said, x, 1, 1000001, 10000);
        said.due("sum(1, 0, 0, -1000000)", x.sum(1, 0, 0, -1000000), 1);
        Houses.has(said, x, 1, -999999, 10000);
        said.name(13, "NULL;");
        said.due("sum(1, 2, 0, 1)", x.sum(1, 2, 0, 1), NULL);
        said.due("sum(1, 0, 2, 1)", x.sum(1, 0, 2, 1), NULL);
        said.due("sum(1, 0, 2, 0)", x.sum(1, 0, 2, 0), NULL);
        said.due("sum(1, 2, 2, -1)", x.sum(1, 2, 2, -1), NULL);
        Houses.has(said, x, 1, -999999, 10000);
        said.due("sum(2, 0, 0, 1), c alone is LOST", x.sum(2, 0, 0, 1), 1);
    }

    private void sumTooMuch() {
        said.name(13, "GREAT;");
        for (int sign = -1; sign <= 1; sign += 2) {
            MeetHouse x = Houses.with(0, sign * 50, 1, 1, 0);
            Houses.put(x, 1, 100, 1);
            Houses.put(x, 2, sign * MOST, 10);
            said.due("100000050", x.sum(2, 0, 1, sign * 1000000), GREAT);
            Houses.has(said, x, 2, sign * (long) MOST, 10);
            said.due("99950050", x.sum(3, 0, 1, sign * 999500), 2);
            said.due("sum of its 100000000", x.sum(4, 2, 2, 0), 1);
            said.due("twice that", x.sum(4, 2, 2, 1), GREAT);
            said.due("that less twice", x.sum(4, 2, 2, -2), 1);
            said.due("that less three times", x.sum(4, 2, 2, -3), GREAT);
            Houses.has(said, x, 4, -sign * (long) MOST, 10);
            said.due("a million times", x.sum(4, 2, 2, 1000000), GREAT);
            Houses.put(x, 5, 0, 0);
            said.due("none and a million times 100", x.sum(4, 5, 1, sign * 1000000), 1);
            Houses.has(said, x, 4, sign * (long) MOST, 1);
            Houses.put(x, 6, sign * 65536, 1);
            said.due("an int would wrap to 0", x.sum(7, 5, 6, 65536), GREAT);
            Houses.put(x, 6, sign * 85899346, 1);
            said.due("an int would wrap to 4", x.sum(7, 5, 6, 50), GREAT);
            said.due("an int would wrap below 0", x.sum(7, 5, 6, 25), GREAT);
        }
        said.name(13, "LONG.");
        MeetHouse x = Houses.full(0);
        Houses.put(x, 1, 1, 88888);
        said.due("600 and another", x.sum(2, 0, 1, 1), LONG);
        said.due("another and 600", x.sum(2, 1, 0, 1), LONG);
        said.due("600 and none of it", x.sum(2, 0, 1, 0), 600);
        said.due("another and none of 600", x.sum(2, 1, 0, 0), 1);
        said.due("in place", x.sum(0, 0, 1, 1), LONG);
        Houses.put(x, 1, 1, 88888, -1, 44350);
        said.due("one comes, one goes", x.sum(0, 0, 1, 1), 600);
        said.due("the one that came", x.exponents(0, 0), 88888);
        said.due("the one that went", x.number(0, 44350), 0);
    }

    private void product() {
        said.name(14, "SHEET c becomes a times b: how many TERMS.");
        MeetHouse x = Houses.with(0, 2, 10000, 3, 1000);
        Houses.put(x, 1, 2, 10000, -3, 1000);
        said.due("the middle goes", x.product(2, 0, 1), 2);
        Houses.has(said, x, 2, 4, 20000, -9, 2000);
        x.blank(3);
        said.due("by no terms", x.product(2, 0, 3), 0);
        Houses.has(said, x, 2);
        said.due("no terms by", x.product(2, 3, 0), 0);
        said.due("no terms by no terms", x.product(3, 3, 3), 0);
        Houses.put(x, 3, -1, 0);
        said.due("by -1", x.product(2, 0, 3), 2);
        Houses.has(said, x, 2, -2, 10000, -3, 1000);
        said.due("c is a", x.product(0, 0, 1), 2);
        Houses.has(said, x, 0, 4, 20000, -9, 2000);
        said.due("c is b", x.product(1, 3, 1), 2);
        Houses.has(said, x, 1, -2, 10000, 3, 1000);
        said.due("c is both", x.product(1, 1, 1), 3);
        Houses.has(said, x, 1, 4, 20000, -12, 11000, 9, 2000);
    }

    private void productRefused() {
        MeetHouse x = Houses.with(0, 1, 10000);
        said.name(14, "BAD;");
        for (int sheet : Houses.NO_SHEETS) {
            said.due("product(" + sheet + ", 0, 0)", x.product(sheet, 0, 0), BAD);
            said.due("product(1, " + sheet + ", 0)", x.product(1, sheet, 0), BAD);
            said.due("product(1, 0, " + sheet + ")", x.product(1, 0, sheet), BAD);
        }
        said.name(14, "NULL;");
        said.due("product(1, 2, 0)", x.product(1, 2, 0), NULL);
        said.due("product(1, 0, 2)", x.product(1, 0, 2), NULL);
        said.due("product(1, 2, 2)", x.product(1, 2, 2), NULL);
        said.due("terms(1)", x.terms(1), NULL);
        said.due("product(1, 0, 0), c alone is LOST", x.product(1, 0, 0), 1);
    }

    private void productTooMuch() {
        said.name(14, "HIGH;");
        MeetHouse x = Houses.with(0, 1, 30000, 1, 7);
        Houses.put(x, 1, 1, 50000, -1, 1);
        said.due("8 of letter 1, 8 of letter 5", x.product(2, 0, 1), 4);
        Houses.put(x, 1, 1, 50000, -1, 2);
        said.due("9 of letter 5", x.product(2, 0, 1), HIGH);
        Houses.put(x, 1, 1, 60000, -1, 1);
        said.due("9 of letter 1", x.product(2, 0, 1), HIGH);
        said.due("in place", x.product(0, 0, 1), HIGH);
        said.due("terms(2)", x.terms(2), 4);
        Houses.has(said, x, 0, 1, 30000, 1, 7);
        said.name(14, "GREAT;");
        for (int sign = -1; sign <= 1; sign += 2) {
            x = Houses.with(0, 5000, 10000, 5000, 1000);
            Houses.put(x, 1, sign * 10000, 10000, sign * 10000, 1000);
            said.due("100000000 come together", x.product(2, 0, 1), 3);
            Houses.has(said, x, 2, sign * 50000000, 20000, sign * (long) MOST, 11000, sign * 50000000, 2000);
            x.add(0, 1, 10000);
            said.due("100010000 come together", x.product(2, 0, 1), GREAT);
            said.due("in place", x.product(1, 0, 1), GREAT);
            Houses.has(said, x, 1, sign * 10000, 10000, sign * 10000, 1000);
            Houses.put(x, 3, 65536, 1);
            Houses.put(x, 4, sign * 65536, 1);
            said.due("an int would wrap to 0", x.product(5, 3, 4), GREAT);
            Houses.put(x, 3, MOST, 1);
            Houses.put(x, 4, sign * MOST, 1);
            said.due("the greatest at all", x.product(5, 3, 4), GREAT);
            Houses.put(x, 0, 20000, 44000, 10000, 4400, 10000, 440);
            Houses.put(x, 1, sign * 10000, 444, -sign * 5000, 40044, -sign * 5000, 44004);
            said.due("beyond on the way alone", x.product(3, 0, 1), 7);
            said.due("what came together", x.number(3, 44444), sign * (long) MOST);
        }
        said.name(14, "LONG.");
        x = sixHundredProduct();
        said.due("600 terms", x.product(4, 3, 0), 600);
        x.add(0, 1, 15);
        said.due("601 terms", x.product(4, 3, 0), LONG);
        said.due("601 terms in place", x.product(0, 0, 3), LONG);
        said.due("terms(0)", x.terms(0), 66 * 8 + 6);
        Houses.put(x, 5, 1, 1, -1, 0);
        said.due("most of them go", x.product(4, 5, 0), 67 * 2);
    }

    private void turned() {
        said.name(15, "SHEET c becomes a EXCHANGED at i: how many TERMS.");
        MeetHouse x = Houses.full(0);
        x.blank(1);
        said.due("600 terms", x.turned(2, 0, 4), 600);
        said.due("the first", x.exponents(2, 0), 44305);
        said.due("in place", x.turned(0, 0, 4), 600);
        said.due("as sheet 2", x.same(0, 2), 1);
        said.due("no terms", x.turned(2, 1, 1), 0);
        Houses.has(said, x, 2);
        Houses.put(x, 1, MOST, 88880, -MOST, 8);
        said.due("the greatest numbers", x.turned(1, 1, 4), 2);
        Houses.has(said, x, 1, MOST, 88808, -MOST, 80);
        said.name(15, "BAD;");
        for (int i : Houses.NO_LETTERS) {
            said.due("turned(2, 1, " + i + ")", x.turned(2, 1, i), BAD);
            said.due("turned(2, 5, " + i + "), LOST", x.turned(2, 5, i), BAD);
        }
        for (int sheet : Houses.NO_SHEETS) {
            said.due("turned(" + sheet + ", 1, 1)", x.turned(sheet, 1, 1), BAD);
            said.due("turned(2, " + sheet + ", 1)", x.turned(2, sheet, 1), BAD);
            said.due("turned(" + sheet + ", 5, 1), LOST", x.turned(sheet, 5, 1), BAD);
        }
        said.name(15, "NULL.");
        said.due("turned(2, 5, 1)", x.turned(2, 5, 1), NULL);
        said.due("turned(2, 5, 4)", x.turned(2, 5, 4), NULL);
        Houses.has(said, x, 2);
        said.due("turned(5, 1, 1), c alone is LOST", x.turned(5, 1, 1), 2);
        said.due("turned(5, 1, 4)", x.turned(5, 1, 4), 2);
    }

    private void difference() {
        said.name(16, "SHEET c becomes the DIFFERENCE of a by i: how many TERMS.");
        MeetHouse x = Houses.with(0, 5, 31000, 1, 22000, 7, 400);
        x.difference(1, 0, 1);
        Houses.has(said, x, 1, 5, 21000, 5, 12000);
        x.difference(1, 0, 3);
        Houses.has(said, x, 1, 7, 300, 7, 210, 7, 120, 7, 30);
        said.due("no terms are left", x.difference(1, 0, 4), 0);
        Houses.has(said, x, 1);
        said.due("of no terms", x.difference(2, 1, 1), 0);
        Houses.has(said, x, 2);
        said.due("in place", x.difference(0, 0, 1), 2);
        Houses.has(said, x, 0, 5, 21000, 5, 12000);
        said.due("in place again", x.difference(0, 0, 1), 0);
        Houses.has(said, x, 0);
    }

    private void differenceRefused() {
        MeetHouse x = Houses.with(0, 1, 10000);
        said.name(16, "BAD;");
        for (int i : Houses.NO_LETTERS) {
            said.due("difference(1, 0, " + i + ")", x.difference(1, 0, i), BAD);
            said.due("difference(1, 5, " + i + "), LOST", x.difference(1, 5, i), BAD);
        }
        for (int sheet : Houses.NO_SHEETS) {
            said.due("difference(" + sheet + ", 0, 1)", x.difference(sheet, 0, 1), BAD);
            said.due("difference(1, " + sheet + ", 1)", x.difference(1, sheet, 1), BAD);
            said.due("difference(" + sheet + ", 5, 1), LOST", x.difference(sheet, 5, 1), BAD);
        }
        said.name(16, "NULL;");
        said.due("difference(1, 5, 1)", x.difference(1, 5, 1), NULL);
        said.due("difference(1, 5, 4)", x.difference(1, 5, 4), NULL);
        said.due("terms(1)", x.terms(1), NULL);
        said.due("difference(1, 0, 4), c alone is LOST", x.difference(1, 0, 4), 0);
        said.due("difference(1, 0, 1)", x.difference(1, 0, 1), 1);
    }

    private void differenceTooMuch() {
        said.name(16, "GREAT;");
        for (int sign = -1; sign <= 1; sign += 2) {
            MeetHouse x = Houses.with(0, sign * 60000000, 30000, sign * 40000000, 21000);
            said.due("100000000 come together", x.difference(1, 0, 1), 3);
            Houses.has(said, x, 1, sign * 60000000, 20000, sign * (long) MOST, 11000, sign * 60000000, 2000);
            x.add(0, sign, 21000);
            said.due("100000001 come together", x.difference(1, 0, 1), GREAT);
            said.due("in place", x.difference(0, 0, 1), GREAT);
            Houses.has(said, x, 0, sign * 60000000, 30000, sign * 40000001, 21000);
            x.add(0, sign * 60000000, 3000);
            said.due("all go", x.sum(2, 0, 0, -1), 0);
            said.due("beyond on the way alone", x.difference(1, 0, 1), 1);
            Houses.has(said, x, 1, sign * 40000001, 11000);
        }
        said.name(16, "LONG.");
        MeetHouse x = sixHundredDifference();
        said.due("600 terms", x.difference(4, 0, 4), 600);
        x.add(0, 1, 10411);
        said.due("and one that goes", x.difference(4, 0, 4), 600);
        x.add(0, -1, 10401);
        said.due("601 terms", x.difference(4, 0, 4), LONG);
        said.due("601 terms in place", x.difference(0, 0, 4), LONG);
        said.due("terms(0)", x.terms(0), 77);
        x.add(0, -1, 10410);
        said.due("600 and two that go together", x.difference(4, 0, 4), 600);
    }

    private void polynomial() {
        said.name(17, "SHEET c becomes THE POLYNOMIAL of an ORDER: how many TERMS.");
        int[][] due = {{1, 1}, {12, 1}, {21, 1}, {132, 2}, {12345, 1}, {54321, 1}, {12354, 4}, {1432, 5}, {12543, 13},
            {15432, 14}};
        for (int[] row : due) {
            MeetHouse x = Houses.full(0);
            said.due("polynomial(0, " + row[0] + ") over 600 terms", x.polynomial(0, row[0]), row[1]);
            said.due("terms(0)", x.terms(0), row[1]);
            said.due("polynomial(11, " + row[0] + "), LOST", x.polynomial(11, row[0]), row[1]);
            said.due("both", x.same(0, 11), 1);
        }
        said.name(17, "BAD.");
        MeetHouse x = new MeetHouse();
        for (int sheet : Houses.NO_SHEETS) {
            said.due("polynomial(" + sheet + ", 1)", x.polynomial(sheet, 1), BAD);
            said.due("polynomial(" + sheet + ", 0)", x.polynomial(sheet, 0), BAD);
        }
        for (int order : Houses.NO_ORDERS) {
            said.due("polynomial(0, " + order + ")", x.polynomial(0, order), BAD);
        }
        said.due("terms(0)", x.terms(0), NULL);
    }

    private void part() {
        said.name(18, "THE PART of a SHEET by an ORDER.");
        for (int n = 1; n <= 4; n++) {
            for (int order : Reference.allOrders(n)) {
                MeetHouse x = new MeetHouse();
                x.polynomial(0, order);
                x.product(0, 0, putNumber(x, -MOST));
                long before = x.digest();
                for (int other : Reference.allOrders(n)) {
                    said.due("of " + order + " by " + other, x.part(0, other), order == other ? -MOST : 0);
                }
                said.due("the sheet is as it was", x.digest(), before);
            }
        }
        MeetHouse x = Houses.full(0);
        said.due("part of 600 terms by 1", x.part(0, 1), 1);
        said.due("part of 600 terms by 21", x.part(0, 21), 0);
        x.blank(1);
        said.due("part of no terms", x.part(1, 1), 0);
        said.name(18, "BAD;");
        for (int sheet : Houses.NO_SHEETS) {
            said.due("part(" + sheet + ", 1)", x.part(sheet, 1), Houses.BAD_LONG);
        }
        for (int order : Houses.NO_ORDERS) {
            said.due("part(0, " + order + ")", x.part(0, order), Houses.BAD_LONG);
            said.due("part(5, " + order + "), LOST", x.part(5, order), Houses.BAD_LONG);
        }
        said.name(18, "NULL;");
        said.due("part(5, 1)", x.part(5, 1), Houses.NULL_LONG);
        said.due("part(5, 54321)", x.part(5, 54321), Houses.NULL_LONG);
    }

    /** Sheet 1 is the number. */
    private static int putNumber(MeetHouse x, int number) {
        Houses.put(x, 1, number, 0);
        return 1;
    }

    private void partTooMuch() {
        said.name(18, "GREAT, LONG (the first on the way).");
        for (int sign = -1; sign <= 1; sign += 2) {
            MeetHouse x = Houses.with(0, sign * 60000000, 10000, -sign * 40000000, 1000);
            said.due("part(0, 21): 100000000", x.part(0, 21), sign * (long) MOST);
            x.add(0, -sign, 1000);
            said.due("part(0, 21): 100000001", x.part(0, 21), Houses.GREAT_LONG);
            said.due("part(0, 321): it would go later", x.part(0, 321), Houses.GREAT_LONG);
            said.due("part(0, 132)", x.part(0, 132), -sign * 40000001L);
        }
        MeetHouse x = sixHundredDifference();
        said.due("part(0, 12354): 600 terms", x.part(0, 12354), 0);
        x.add(0, 4, 10);
        said.due("part(0, 12354): 601 terms", x.part(0, 12354), Houses.LONG_LONG);
        said.due("part(0, 12453): 601 terms", x.part(0, 12453), Houses.LONG_LONG);
        said.due("part(0, 12435): by 3 it is not", x.part(0, 12435), -4);
        x.add(0, MOST, 10000);
        x.add(0, -MOST, 1000);
        said.due("part(0, 21354): GREAT by 1 comes first", x.part(0, 21354), Houses.GREAT_LONG);
        said.due("part(0, 12354): LONG by 4 comes first", x.part(0, 12354), Houses.LONG_LONG);
        x = Houses.with(0, 4, 10000, MOST, 10, -MOST, 1);
        said.due("part(0, 21354): by 4 nothing is beyond then", x.part(0, 21354), 0);
        said.due("part(0, 12354): GREAT by 4", x.part(0, 12354), Houses.GREAT_LONG);
        x = turnedSixHundred();
        said.due("part(0, 21345): 601 terms by 1", x.part(0, 21345), Houses.LONG_LONG);
        x.add(0, MOST, 10);
        x.add(0, -MOST, 1);
        said.due("part(0, 21354): LONG by 1 comes first", x.part(0, 21354), Houses.LONG_LONG);
        said.due("part(0, 12354): GREAT by 4", x.part(0, 12354), Houses.GREAT_LONG);
        x.add(0, MOST, 10000);
        x.add(0, -MOST, 1000);
        said.due("part(0, 21354): GREAT ahead of LONG", x.part(0, 21354), Houses.GREAT_LONG);
    }

    /** The difference by 1 of sheet 0 has 601 terms. */
    private static MeetHouse turnedSixHundred() {
        MeetHouse x = sixHundredDifference();
        x.add(0, 1, 10410);
        for (int i : new int[] {3, 2, 1, 4, 3, 2}) {
            x.turned(0, 0, i);
        }
        return x;
    }

    private void constant() {
        said.name(19, "THE PART by w of THE POLYNOMIAL of u times that of v.");
        MeetHouse x = new MeetHouse();
        int[][] due = {{1, 1, 1, 1}, {1, 1, 12345, 1}, {1, 1, 21, 0}, {21, 21, 312, 1}, {21, 21, 231, 0}, {21, 1, 1, 0},
            {132, 132, 231, 1}, {132, 132, 312, 0}, {54321, 1, 54321, 1}, {1, 54321, 54321, 1},
            {54321, 54321, 54321, 0}, {54321, 21, 54321, 0}, {21543, 21543, 54321, 0}, {12354, 54312, 54321, 1},
            {53421, 12354, 54321, 0}, {2143, 1324, 2413, 1}, {2143, 2143, 4123, 0}};
        long before = x.digest();
        for (int[] row : due) {
            said.due("constant(" + row[0] + ", " + row[1] + ", " + row[2] + ")", x.constant(row[0], row[1], row[2]),
                    row[3]);
        }
        said.name(19, "BAD.");
        for (int order : Houses.NO_ORDERS) {
            said.due("constant(" + order + ", 1, 1)", x.constant(order, 1, 1), Houses.BAD_LONG);
            said.due("constant(1, " + order + ", 1)", x.constant(1, order, 1), Houses.BAD_LONG);
            said.due("constant(1, 1, " + order + ")", x.constant(1, 1, order), Houses.BAD_LONG);
        }
        said.due("digest()", x.digest(), before);
    }

    private void same() {
        said.name(20, "Whether two SHEETS have the same POLYNOMIAL: 1, 0.");
        MeetHouse x = Houses.full(0);
        x.sum(1, 0, 0, 0);
        said.due("600 terms", x.same(0, 1), 1);
        x.add(1, 1, 0);
        said.due("the last number", x.same(0, 1), 0);
        x.add(1, -1, 0);
        said.due("as before", x.same(1, 0), 1);
        x.add(1, -1, 0);
        said.due("the last is missing", x.same(0, 1), 0);
        said.due("the last is missing", x.same(1, 0), 0);
        x.add(1, 1, 1);
        said.due("other exponents of the last", x.same(0, 1), 0);
        x.add(1, -1, 44350);
        x.add(1, -1, 1);
        x.add(1, 1, 0);
        x.add(1, 1, 44351);
        said.due("other exponents of the first", x.same(0, 1), 0);
        x.blank(2);
        x.blank(3);
        said.due("no terms", x.same(2, 3), 1);
        said.due("no terms and 600", x.same(2, 0), 0);
        said.due("600 and no terms", x.same(0, 2), 0);
        said.due("one sheet", x.same(0, 0), 1);
        said.name(20, "BAD;");
        for (int sheet : Houses.NO_SHEETS) {
            said.due("same(" + sheet + ", 0)", x.same(sheet, 0), BAD);
            said.due("same(0, " + sheet + ")", x.same(0, sheet), BAD);
            said.due("same(" + sheet + ", 5), LOST", x.same(sheet, 5), BAD);
            said.due("same(5, " + sheet + "), LOST", x.same(5, sheet), BAD);
        }
        said.name(20, "NULL.");
        said.due("same(5, 0)", x.same(5, 0), NULL);
        said.due("same(0, 5)", x.same(0, 5), NULL);
        said.due("same(5, 5)", x.same(5, 5), NULL);
        said.due("same(5, 6)", x.same(5, 6), NULL);
    }
}
