import java.util.Random;

/** Runs of calls that a seed tells, on the program and on the reference, answer for answer. */
public final class AgainstReferenceTest {
    private static final int RUNS = 160;
    /** With a digest behind each of them, and what is made ahead, an object is not asked more than 512 times. */
    private static final int CALLS = 248;
    private static final int[] EDGES = {Integer.MIN_VALUE, Integer.MIN_VALUE + 1, -100, -2, -1, 0, 1, 2, 3, 4, 5, 6, 7,
        8, 9, 10, 11, 12, 13, 16, 17, 255, 256, 9999, 10000, 54321, 88888, 88889, 90000, 99999, 100000, 1000000,
        Integer.MAX_VALUE};

    private final Random random;
    private final Check check;
    private final int run;
    private final MeetHouse house = new MeetHouse();
    private final Reference reference = new Reference();
    private String last = "";
    private long got;
    private long want;

    private AgainstReferenceTest(int run, Check check) {
        this.run = run;
        this.check = check;
        this.random = new Random(1000L + run);
    }

    public static void main(String[] args) {
        Check check = new Check("AgainstReferenceTest");
        for (int run = 0; run < RUNS && !check.hasFailed(); run++) {
            new AgainstReferenceTest(run, check).go();
        }
        check.end();
    }

    private void go() {
        int theme = run % 4;
        if (theme == 1) {
            prelude();
        }
        for (int call = 0; call < CALLS && !check.hasFailed(); call++) {
            int kind = theme == 0 || random.nextInt(8) == 0 ? random.nextInt(3) + 1 : theme;
            if (kind == 1) {
                polynomials();
            } else if (kind == 2) {
                boxes();
            } else if (random.nextInt(3) == 0) {
                orders();
            } else {
                space();
            }
            check.due("run " + run + ", call " + call + ": " + last, got, want);
            check.due("run " + run + ", call " + call + ": digest behind " + last, house.digest(), reference.digest());
        }
    }

    /** Sheets with many terms and with great numbers, so that the refusals come. */
    private void prelude() {
        house.blank(0);
        reference.blank(0);
        int[] letters = {0, 1, 10, 100, 1000, 10000};
        for (int letter : letters) {
            long number = run % 8 == 1 ? 1 : random.nextInt(4000) - 2000;
            house.add(0, number, letter);
            reference.add(0, number, letter);
        }
        for (int power = 1; power <= 6; power++) {
            check.due("product", house.product(power, power - 1, 0), reference.product(power, power - 1, 0));
        }
    }

    private int pick(int from, int to) {
        return random.nextInt(25) == 0 ? EDGES[random.nextInt(EDGES.length)] : from + random.nextInt(to - from + 1);
    }

    private int order() {
        if (random.nextInt(25) == 0) {
            return random.nextBoolean() ? pick(0, 60000) : EDGES[random.nextInt(EDGES.length)];
        }
        int n = 1 + random.nextInt(5);
        int order = 0;
        int seen = 0;
        while (Integer.bitCount(seen) < n) {
            int figure = 1 + random.nextInt(n);
            if ((seen & 1 << figure) == 0) {
                seen |= 1 << figure;
                order = order * 10 + figure;
            }
        }
        return order;
    }

    private int exponents() {
        int exponents = 0;
        int most = random.nextInt(6) == 0 ? 9 : 1 + random.nextInt(4);
        for (int letter = 0; letter < 5; letter++) {
            exponents = exponents * 10 + random.nextInt(most);
        }
        return random.nextInt(25) == 0 ? EDGES[random.nextInt(EDGES.length)] : exponents;
    }

    private long number() {
        switch (random.nextInt(8)) {
            case 0:
                return 100000000L - random.nextInt(2);
            case 1:
                return random.nextInt(3) == 0 ? Long.MIN_VALUE + random.nextInt(2) : 100000001L;
            case 2:
                return -100000000L - random.nextInt(2);
            case 3:
                return random.nextInt(30000);
            default:
                return random.nextInt(9) - 4;
        }
    }

    private void orders() {
        int order = order();
        int i = pick(1, 4);
        int k = pick(-1, 5);
        switch (random.nextInt(5)) {
            case 0:
                answer("length(" + order + ")", house.length(order), reference.length(order));
                break;
            case 1:
                answer("exchange(" + order + ", " + i + ")", house.exchange(order, i), reference.exchange(order, i));
                break;
            case 2:
                answer("inverse(" + order + ")", house.inverse(order), reference.inverse(order));
                break;
            case 3:
                answer("orders(" + i + ", " + k + ")", house.orders(i, k), reference.orders(i, k));
                break;
            default:
                answer("step(" + order + ", " + i + ", " + k + ")", house.step(order, i, k),
                        reference.step(order, i, k));
                break;
        }
    }

    private void answer(String call, long got, long want) {
        last = call;
        this.got = got;
        this.want = want;
    }

    private void polynomials() {
        int a = pick(0, 11);
        int b = pick(0, 11);
        int c = pick(0, 11);
        int i = pick(1, 4);
        if (random.nextInt(3) > 0) {
            a = Math.floorMod(a, 7);
            b = Math.floorMod(b, 7);
        }
        if (random.nextBoolean()) {
            making(a, b, c, i);
        } else {
            asking(a, b, i);
        }
    }

    private void making(int a, int b, int c, int i) {
        int order = order();
        switch (random.nextInt(9)) {
            case 0:
                answer("blank(" + c + ")", house.blank(c), reference.blank(c));
                break;
            case 1:
                if (random.nextInt(3) == 0) {
                    answer("lose(" + c + ")", house.lose(c), reference.lose(c));
                    break;
                }
            case 2:
            case 3:
                long number = number();
                int exponents = exponents();
                answer("add(" + a + ", " + number + ", " + exponents + ")", house.add(a, number, exponents),
                        reference.add(a, number, exponents));
                break;
            case 4:
                int m = random.nextInt(4) == 0 ? pick(-1000001, 1000001) : random.nextInt(7) - 3;
                answer("sum(" + c + ", " + a + ", " + b + ", " + m + ")", house.sum(c, a, b, m),
                        reference.sum(c, a, b, m));
                break;
            case 5:
                answer("product(" + c + ", " + a + ", " + b + ")", house.product(c, a, b), reference.product(c, a, b));
                break;
            case 6:
                answer("turned(" + c + ", " + a + ", " + i + ")", house.turned(c, a, i), reference.turned(c, a, i));
                break;
            case 7:
                answer("difference(" + c + ", " + a + ", " + i + ")", house.difference(c, a, i),
                        reference.difference(c, a, i));
                break;
            default:
                answer("polynomial(" + c + ", " + order + ")", house.polynomial(c, order),
                        reference.polynomial(c, order));
                break;
        }
    }

    private void asking(int a, int b, int i) {
        int order = order();
        switch (random.nextInt(6)) {
            case 0:
                answer("terms(" + a + ")", house.terms(a), reference.terms(a));
                break;
            case 1:
                int t = pick(-1, 20);
                answer("exponents(" + a + ", " + t + ")", house.exponents(a, t), reference.exponents(a, t));
                break;
            case 2:
                int exponents = exponents();
                answer("number(" + a + ", " + exponents + ")", house.number(a, exponents),
                        reference.number(a, exponents));
                break;
            case 3:
                answer("part(" + a + ", " + order + ")", house.part(a, order), reference.part(a, order));
                break;
            case 4:
                int v = order();
                int w = order();
                answer("constant(" + order + ", " + v + ", " + w + ")", house.constant(order, v, w),
                        reference.constant(order, v, w));
                break;
            default:
                answer("same(" + a + ", " + b + ")", house.same(a, b), reference.same(a, b));
                break;
        }
    }

    private int box(int k, int m) {
        if (random.nextInt(20) == 0) {
            return random.nextBoolean() ? random.nextInt(5000) : EDGES[random.nextInt(EDGES.length)];
        }
        int box = 0;
        int ahead = Math.max(0, Math.min(m, 4));
        for (int row = 0; row < Math.max(0, Math.min(k, 4)); row++) {
            ahead = random.nextInt(ahead + 1);
            if (row == 0 && random.nextBoolean()) {
                ahead = Math.max(0, Math.min(m, 4));
            }
            box = box * 10 + ahead;
        }
        return box;
    }

    private void boxes() {
        int k = pick(1, 4);
        int m = pick(1, 4);
        int a = box(k, m);
        switch (random.nextInt(7)) {
            case 0:
                int p = pick(0, 6);
                int i = pick(-1, 3);
                answer("strip(" + k + ", " + m + ", " + a + ", " + p + ", " + i + ")", house.strip(k, m, a, p, i),
                        reference.strip(k, m, a, p, i));
                break;
            case 1:
                filling(k, m);
                break;
            case 2:
                answer("orderOf(" + k + ", " + m + ", " + a + ")", house.orderOf(k, m, a), reference.orderOf(k, m, a));
                break;
            case 3:
                if (random.nextInt(3) == 0) {
                    answer("begin(" + k + ", " + m + ")", house.begin(k, m), reference.begin(k, m));
                    break;
                }
            case 4:
            case 5:
                int box = box(reference.count(2), reference.count(3));
                if (random.nextInt(3) > 0) {
                    box = Reference.allBoxes(reference.count(2), reference.count(3)).get(random.nextInt(2));
                }
                answer("condition(" + box + ")", house.condition(box), reference.condition(box));
                break;
            default:
                answer("meeting()", house.meeting(), reference.meeting());
                break;
        }
    }

    private void filling(int k, int m) {
        int a = box(k, m);
        int b = box(k, m);
        int c = box(k, m);
        answer("fillings(" + k + ", " + m + ", " + a + ", " + b + ", " + c + ")", house.fillings(k, m, a, b, c),
                reference.fillings(k, m, a, b, c));
    }

    private int point() {
        int point = 0;
        for (int place = 0; place < 4; place++) {
            point = point * 10 + random.nextInt(reference.count(4));
        }
        return random.nextInt(30) == 0 ? pick(0, 5555) : point;
    }

    private void space() {
        int a = pick(0, 7);
        int b = pick(0, 7);
        int bits = pick(0, 255) & (random.nextBoolean() ? -1 : pick(0, 255));
        switch (random.nextInt(12)) {
            case 0:
                int what = pick(0, 5);
                answer("count(" + what + ")", house.count(what), reference.count(what));
                break;
            case 1:
                if (random.nextInt(10) == 0) {
                    int q = pick(2, 5);
                    answer("field(" + q + ")", house.field(q), reference.field(q));
                    break;
                }
            case 2:
            case 3:
            case 4:
                int x = point();
                int y = point();
                answer("rod(" + a + ", " + x + ", " + y + ")", house.rod(a, x, y), reference.rod(a, x, y));
                break;
            case 5:
                if (random.nextInt(3) == 0) {
                    answer("drop(" + a + ")", house.drop(a), reference.drop(a));
                    break;
                }
            case 6:
            case 7:
                answer("meet(" + a + ", " + b + ")", house.meet(a, b), reference.meet(a, b));
                break;
            case 8:
            case 9:
                answer("lines(" + bits + ")", house.lines(bits), reference.lines(bits));
                break;
            default:
                answer("points(" + bits + ")", house.points(bits), reference.points(bits));
                break;
        }
    }
}
