/**
 * A house of orders and their polynomials, of boxes and their fillings, and of lines over a small field.
 * ../shared/DOC.md says what each call promises; its words in capitals bear the same meaning here.
 */
public final class MeetHouse {
    public static final int NONE = -1, BAD = -2, NULL = -3, HIGH = -4, GREAT = -5, LONG = -6, FULL = -7;

    private static final int SHEETS = 12;
    private static final int LETTERS = 5;
    private static final int MOST_EXPONENT = 8;
    private static final int MOST_EXPONENTS = 88888;
    private static final int MOST_TERMS = 600;
    private static final int MOST_NUMBER = 100000000;
    private static final int MOST_FACTOR = 1000000;
    private static final int MOST_FIGURES = 5;
    private static final int MOST_LENGTH = 10;
    private static final int MOST_SIDE = 4;
    private static final int MOST_STRIP = 16;
    private static final long LEAST = -9223372036854775808L;

    private final Polynomial[] sheets = new Polynomial[SHEETS];
    private final Algebra algebra = new Algebra();
    private final Conditions list = new Conditions();
    private final Space space = new Space();

    public MeetHouse() {
        for (int sheet = 0; sheet < SHEETS; sheet++) {
            sheets[sheet] = new Polynomial();
        }
    }

    // ---- orders

    public int length(int order) {
        int n = Orders.figures(order);
        return n == 0 ? BAD : Orders.falls(order, n);
    }

    public int exchange(int order, int i) {
        int n = Orders.figures(order);
        if (i < 1 || i >= n) {
            return BAD;
        }
        return Orders.swapped(order, n, i, i + 1);
    }

    public int inverse(int order) {
        int n = Orders.figures(order);
        return n == 0 ? BAD : Orders.inverted(order, n);
    }

    public int orders(int n, int length) {
        if (n < 1 || n > MOST_FIGURES || length < 0) {
            return BAD;
        }
        return Orders.ofLength(n, length);
    }

    public int step(int order, int r, int k) {
        int n = Orders.figures(order);
        if (n == 0 || n == MOST_FIGURES || r < 1 || r > n) {
            return BAD;
        }
        return Orders.risen(order * 10 + n + 1, n + 1, r, k);
    }

    // ---- polynomials

    public int blank(int sheet) {
        if (!isSheet(sheet)) {
            return BAD;
        }
        sheets[sheet].clear();
        return 1;
    }

    public int lose(int sheet) {
        if (!isSheet(sheet)) {
            return BAD;
        }
        if (isLost(sheet)) {
            return NULL;
        }
        int had = sheets[sheet].size();
        sheets[sheet].vanish();
        return had;
    }

    public int add(int sheet, long number, int exponents) {
        if (!isSheet(sheet) || isBeyond(number) || !areExponents(exponents)) {
            return BAD;
        }
        if (isLost(sheet)) {
            return NULL;
        }
        return algebra.join(sheets[sheet], number, exponents);
    }

    public int terms(int sheet) {
        if (!isSheet(sheet)) {
            return BAD;
        }
        return isLost(sheet) ? NULL : sheets[sheet].size();
    }

    public int exponents(int sheet, int t) {
        if (!isSheet(sheet)) {
            return BAD;
        }
        if (isLost(sheet)) {
            return NULL;
        }
        if (t < 0 || t >= sheets[sheet].size()) {
            return BAD;
        }
        return sheets[sheet].exponentsAt(t);
    }

    public long number(int sheet, int exponents) {
        if (!isSheet(sheet) || !areExponents(exponents)) {
            return refusal(BAD);
        }
        return isLost(sheet) ? refusal(NULL) : sheets[sheet].numberOf(exponents);
    }

    public int sum(int c, int a, int b, int m) {
        if (!isSheet(c) || !isSheet(a) || !isSheet(b) || m < -MOST_FACTOR || m > MOST_FACTOR) {
            return BAD;
        }
        if (isLost(a) || isLost(b)) {
            return NULL;
        }
        return algebra.combine(sheets[c], sheets[a], sheets[b], m);
    }

    public int product(int c, int a, int b) {
        if (!isSheet(c) || !isSheet(a) || !isSheet(b)) {
            return BAD;
        }
        if (isLost(a) || isLost(b)) {
            return NULL;
        }
        return algebra.multiply(sheets[c], sheets[a], sheets[b]);
    }

    public int turned(int c, int a, int i) {
        if (!isSheet(c) || !isSheet(a) || i < 1 || i >= LETTERS) {
            return BAD;
        }
        return isLost(a) ? NULL : algebra.swapLetters(sheets[c], sheets[a], i);
    }

    public int difference(int c, int a, int i) {
        if (!isSheet(c) || !isSheet(a) || i < 1 || i >= LETTERS) {
            return BAD;
        }
        return isLost(a) ? NULL : algebra.differ(sheets[c], sheets[a], i);
    }

    public int polynomial(int c, int order) {
        int n = Orders.figures(order);
        if (!isSheet(c) || n == 0) {
            return BAD;
        }
        return algebra.compose(sheets[c], order, n);
    }

    public long part(int a, int order) {
        int n = Orders.figures(order);
        if (!isSheet(a) || n == 0) {
            return refusal(BAD);
        }
        return isLost(a) ? refusal(NULL) : algebra.partOf(sheets[a], order, n);
    }

    public long constant(int u, int v, int w) {
        if (Orders.figures(u) == 0 || Orders.figures(v) == 0 || Orders.figures(w) == 0) {
            return refusal(BAD);
        }
        return algebra.partOfProduct(u, v, w);
    }

    public int same(int a, int b) {
        if (!isSheet(a) || !isSheet(b)) {
            return BAD;
        }
        if (isLost(a) || isLost(b)) {
            return NULL;
        }
        return sheets[a].isLike(sheets[b]) ? 1 : 0;
    }

    // ---- boxes

    public int strip(int k, int m, int box, int p, int i) {
        if (!Boxes.isBox(k, m, box) || p < 0 || p > MOST_STRIP) {
            return BAD;
        }
        return Boxes.stripAt(k, m, box, p, i);
    }

    public int fillings(int k, int m, int a, int b, int c) {
        if (!Boxes.isBox(k, m, a) || !Boxes.isBox(k, m, b) || !Boxes.isBox(k, m, c)) {
            return BAD;
        }
        return list.filler().howMany(k, a, b, c);
    }

    public int orderOf(int k, int m, int box) {
        if (!Boxes.isBox(k, m, box) || k + m > MOST_FIGURES) {
            return BAD;
        }
        return Boxes.toOrder(k, m, box);
    }

    public int begin(int k, int m) {
        if (!Boxes.isShape(k, m)) {
            return BAD;
        }
        return list.restart(k, m);
    }

    public int condition(int box) {
        if (!Boxes.isBox(list.rows(), list.columns(), box)) {
            return BAD;
        }
        return list.append(box);
    }

    public long meeting() {
        return list.total();
    }

    // ---- space

    public int field(int q) {
        if (q != 2 && q != 3 && q != 5) {
            return BAD;
        }
        return space.change(q);
    }

    public int rod(int rod, int a, int b) {
        if (!Space.isRod(rod) || !space.isPoint(a) || !space.isPoint(b)) {
            return BAD;
        }
        return space.lay(rod, a, b) ? 1 : BAD;
    }

    public int drop(int rod) {
        if (!Space.isRod(rod)) {
            return BAD;
        }
        return space.remove(rod) ? 1 : NULL;
    }

    public int meet(int a, int b) {
        if (!Space.isRod(a) || !Space.isRod(b)) {
            return BAD;
        }
        return space.howMet(a, b);
    }

    public int lines(int bits) {
        if (!Space.areBits(bits)) {
            return BAD;
        }
        return space.areThere(bits) ? space.linesMeeting(bits) : NULL;
    }

    public int points(int bits) {
        if (!Space.areBits(bits)) {
            return BAD;
        }
        return space.areThere(bits) ? space.pointsOn(bits) : NULL;
    }

    public int count(int what) {
        switch (what) {
            case 0:
                return keptSheets();
            case 1:
                return list.size();
            case 2:
                return list.rows();
            case 3:
                return list.columns();
            case 4:
                return space.order();
            case 5:
                return space.rodsThere();
            default:
                return BAD;
        }
    }

    public long digest() {
        long h = 17;
        for (int what = 0; what <= 5; what++) {
            h = 31 * h + count(what);
        }
        for (int sheet = 0; sheet < SHEETS; sheet++) {
            if (!isLost(sheet)) {
                h = sheets[sheet].digestOn(31 * h + sheet);
            }
        }
        return list.digestOn(h);
    }

    private static boolean isSheet(int sheet) {
        return sheet >= 0 && sheet < SHEETS;
    }

    private boolean isLost(int sheet) {
        return !isSheet(sheet) || !sheets[sheet].isThere();
    }

    private int keptSheets() {
        int kept = 0;
        for (int sheet = 0; sheet < SHEETS; sheet++) {
            if (!isLost(sheet)) {
                kept++;
            }
        }
        return kept;
    }

    private static boolean isBeyond(long number) {
        return number < -MOST_NUMBER || number > MOST_NUMBER;
    }

    private static boolean areExponents(int exponents) {
        if (exponents < 0 || exponents > MOST_EXPONENTS) {
            return false;
        }
        for (int letter = 1; letter <= LETTERS; letter++) {
            if (Figures.at(exponents, LETTERS - letter) > MOST_EXPONENT) {
                return false;
            }
        }
        return true;
    }

    /** A refusal where the answer is a long. */
    private static long refusal(int code) {
        return LEAST - code;
    }

    /** Numbers of figures. */
    private static final class Figures {
        /** The decimal figure with so many behind it. */
        static int at(int number, int behind) {
            int rest = number;
            for (int gone = 0; gone < behind; gone++) {
                rest /= 10;
            }
            return rest % 10;
        }

        static int power(int base, int exponent) {
            int power = 1;
            for (int times = 0; times < exponent; times++) {
                power *= base;
            }
            return power;
        }
    }

    /** ORDERS, as the numbers that tell them; n is how many figures one has. */
    private static final class Orders {
        /** How many figures an ORDER has; 0 if the number tells none. */
        static int figures(int order) {
            if (order < 1 || order > 54321) {
                return 0;
            }
            int n = 0;
            int seen = 0;
            int rest = order;
            while (n < MOST_FIGURES && rest > 0) {
                seen |= 1 << (rest % 10);
                rest /= 10;
                n++;
            }
            return seen == (1 << (n + 1)) - 2 ? n : 0;
        }

        static int figure(int order, int n, int place) {
            return Figures.at(order, n - place);
        }

        /** The LENGTH. */
        static int falls(int order, int n) {
            int falls = 0;
            for (int a = 1; a < n; a++) {
                for (int b = a + 1; b <= n; b++) {
                    if (figure(order, n, a) > figure(order, n, b)) {
                        falls++;
                    }
                }
            }
            return falls;
        }

        /** The figures at places a and b change places. */
        static int swapped(int order, int n, int a, int b) {
            int more = figure(order, n, b) - figure(order, n, a);
            return order + more * (Figures.power(10, n - a) - Figures.power(10, n - b));
        }

        static int inverted(int order, int n) {
            int inverted = 0;
            for (int place = 1; place <= n; place++) {
                inverted += place * Figures.power(10, n - figure(order, n, place));
            }
            return inverted;
        }

        /** The first place whose figure is below the next one (above it, if falling); 0 without one. */
        static int firstStep(int order, int n, boolean falling) {
            for (int i = 1; i < n; i++) {
                if (figure(order, n, i) > figure(order, n, i + 1) == falling) {
                    return i;
                }
            }
            return 0;
        }

        /** How many ORDERS of n have the LENGTH: n stands in an ORDER of n - 1 with 0 to n - 1 figures behind it. */
        private static int ofLength(int n, int length) {
            if (n <= 1) {
                return length == 0 ? 1 : 0;
            }
            int many = 0;
            for (int behind = 0; behind < n && behind <= length; behind++) {
                many += ofLength(n - 1, length - behind);
            }
            return many;
        }

        /** The k-th ORDER that comes of this one by an exchange across r and is longer by 1. */
        static int risen(int order, int n, int r, int k) {
            // of 5 figures there are no more than 10 pairs to exchange
            if (k < 0 || k >= MOST_LENGTH) {
                return NONE;
            }
            int found = 0;
            for (int at = 0; at <= k && found != NONE; at++) {
                found = leastRisen(order, n, r, found);
            }
            return found;
        }

        private static int leastRisen(int order, int n, int r, int above) {
            int due = falls(order, n) + 1;
            int least = NONE;
            for (int a = 1; a <= r; a++) {
                for (int b = r + 1; b <= n; b++) {
                    int other = swapped(order, n, a, b);
                    if (other > above && (least == NONE || other < least) && falls(other, n) == due) {
                        least = other;
                    }
                }
            }
            return least;
        }
    }

    /** A SHEET: TERMS with the greatest EXPONENTS first, or LOST. */
    private static final class Polynomial {
        private final int[] exponents = new int[MOST_TERMS];
        private final int[] numbers = new int[MOST_TERMS];
        private int size = 0;
        private boolean there = false;

        int size() {
            return size;
        }

        boolean isThere() {
            return there;
        }

        void vanish() {
            size = 0;
            there = false;
        }

        void clear() {
            size = 0;
            there = true;
        }

        /** One TERM more, with lower EXPONENTS than those that stand. */
        void append(int code, int number) {
            if (size < MOST_TERMS) {
                exponents[size] = code;
                numbers[size] = number;
                size++;
            }
        }

        int exponentsAt(int t) {
            return t >= 0 && t < size ? exponents[t] : 0;
        }

        int numberAt(int t) {
            return t >= 0 && t < size ? numbers[t] : 0;
        }

        int numberOf(int code) {
            for (int t = 0; t < size; t++) {
                if (exponentsAt(t) == code) {
                    return numberAt(t);
                }
            }
            return 0;
        }

        int exponentAt(int t, int letter) {
            return Figures.at(exponentsAt(t), LETTERS - letter);
        }

        int topExponent(int letter) {
            int top = 0;
            for (int t = 0; t < size; t++) {
                top = Math.max(top, exponentAt(t, letter));
            }
            return top;
        }

        boolean isLike(Polynomial other) {
            if (size != other.size) {
                return false;
            }
            for (int t = 0; t < size; t++) {
                if (exponentsAt(t) != other.exponentsAt(t) || numberAt(t) != other.numberAt(t)) {
                    return false;
                }
            }
            return true;
        }

        void copy(Polynomial other) {
            clear();
            for (int t = 0; t < other.size; t++) {
                append(other.exponentsAt(t), other.numberAt(t));
            }
        }

        long digestOn(long before) {
            long h = 31 * before + size;
            for (int t = 0; t < size; t++) {
                h = 31 * h + exponentsAt(t);
                h = 31 * h + numberAt(t);
            }
            return h;
        }
    }

    /**
     * Where the numbers of a polynomial in the making come together, each at its EXPONENTS.
     * Whole blocks of EXPONENTS are passed over while nothing has come to them.
     * A sum stays within a long: at most 600 products of two NUMBERS come to one place.
     */
    private static final class Pot {
        private static final int BLOCK = 100;

        private final long[] sums = new long[MOST_EXPONENTS + 1];
        private final boolean[] used = new boolean[MOST_EXPONENTS / BLOCK + 1];
        private final Polynomial draft = new Polynomial();
        private int terms = 0;
        private boolean isGreat = false;

        void pour(int code, long number) {
            if (code >= 0 && code <= MOST_EXPONENTS) {
                sums[code] += number;
                used[code / BLOCK] = true;
            }
        }

        void pourAll(Polynomial p, long factor) {
            for (int t = 0; t < p.size(); t++) {
                pour(p.exponentsAt(t), factor * p.numberAt(t));
            }
        }

        /** What has come together becomes the polynomial: how many TERMS, or a refusal. The pot is empty then. */
        int settle(Polynomial into) {
            draft.clear();
            terms = 0;
            isGreat = false;
            for (int block = used.length - 1; block >= 0; block--) {
                if (used[block]) {
                    takeOut(block);
                }
            }
            if (isGreat) {
                return GREAT;
            }
            if (terms > MOST_TERMS) {
                return LONG;
            }
            into.copy(draft);
            return terms;
        }

        /** The draft has no place for more than the most TERMS: these are counted alone. */
        private void takeOut(int block) {
            int first = block * BLOCK;
            for (int code = Math.min(first + BLOCK - 1, MOST_EXPONENTS); code >= first; code--) {
                if (sums[code] != 0) {
                    isGreat |= isBeyond(sums[code]);
                    draft.append(code, (int) sums[code]);
                    terms++;
                    sums[code] = 0;
                }
            }
            used[block] = false;
        }
    }

    /** What makes polynomials of others; the one that is made may be one of those. */
    private static final class Algebra {
        private final Pot pot = new Pot();
        private final Polynomial left = new Polynomial();
        private final Polynomial right = new Polynomial();

        int join(Polynomial p, long number, int code) {
            pot.pourAll(p, 1);
            pot.pour(code, number);
            return pot.settle(p);
        }

        int combine(Polynomial c, Polynomial a, Polynomial b, int m) {
            pot.pourAll(a, 1);
            pot.pourAll(b, m);
            return pot.settle(c);
        }

        int multiply(Polynomial c, Polynomial a, Polynomial b) {
            if (isTooHigh(a, b)) {
                return HIGH;
            }
            for (int s = 0; s < a.size(); s++) {
                long number = a.numberAt(s);
                for (int t = 0; t < b.size(); t++) {
                    pot.pour(a.exponentsAt(s) + b.exponentsAt(t), number * b.numberAt(t));
                }
            }
            return pot.settle(c);
        }

        private static boolean isTooHigh(Polynomial a, Polynomial b) {
            for (int letter = 1; letter <= LETTERS; letter++) {
                if (a.topExponent(letter) + b.topExponent(letter) > MOST_EXPONENT) {
                    return true;
                }
            }
            return false;
        }

        int swapLetters(Polynomial c, Polynomial a, int i) {
            for (int t = 0; t < a.size(); t++) {
                pot.pour(Orders.swapped(a.exponentsAt(t), LETTERS, i, i + 1), a.numberAt(t));
            }
            return pot.settle(c);
        }

        int differ(Polynomial c, Polynomial a, int i) {
            for (int t = 0; t < a.size(); t++) {
                pourDifference(a, t, i);
            }
            return pot.settle(c);
        }

        /** Of x^p y^q with p above q come x^(p-1) y^q, x^(p-2) y^(q+1) .. x^q y^(p-1); with p below q the same, less. */
        private void pourDifference(Polynomial a, int t, int i) {
            int p = a.exponentAt(t, i);
            int q = a.exponentAt(t, i + 1);
            int unit = Figures.power(10, LETTERS - i);
            int next = Figures.power(10, LETTERS - i - 1);
            int others = a.exponentsAt(t) - p * unit - q * next;
            int number = p > q ? a.numberAt(t) : -a.numberAt(t);
            int both = p + q - 1;
            for (int exponent = Math.min(p, q); exponent < Math.max(p, q); exponent++) {
                pot.pour(others + exponent * unit + (both - exponent) * next, number);
            }
        }

        /** THE POLYNOMIAL: the way up to n .. 1 is kept as figures, and gone back by differences. */
        int compose(Polynomial c, int order, int n) {
            long way = 0;
            int w = order;
            int steps = 0;
            for (int i = Orders.firstStep(w, n, false); i > 0 && steps < MOST_LENGTH; steps++) {
                way = way * 10 + i;
                w = Orders.swapped(w, n, i, i + 1);
                i = Orders.firstStep(w, n, false);
            }
            c.clear();
            c.append(staircase(n), 1);
            for (int back = 0; back < steps; back++) {
                differ(c, c, (int) (way % 10));
                way /= 10;
            }
            return c.size();
        }

        /** EXPONENTS n - 1, n - 2, .. of the first LETTERS. */
        private static int staircase(int n) {
            int exponents = 0;
            for (int letter = 1; letter <= LETTERS; letter++) {
                exponents = exponents * 10 + Math.max(n - letter, 0);
            }
            return exponents;
        }

        long partOf(Polynomial a, int order, int n) {
            left.copy(a);
            return partOfLeft(order, n);
        }

        long partOfProduct(int u, int v, int w) {
            compose(left, u, Orders.figures(u));
            compose(right, v, Orders.figures(v));
            int fault = multiply(left, left, right);
            return fault < 0 ? refusal(fault) : partOfLeft(w, Orders.figures(w));
        }

        private long partOfLeft(int order, int n) {
            int w = order;
            int i = Orders.firstStep(w, n, true);
            for (int steps = 0; i > 0 && steps < MOST_LENGTH; steps++) {
                int fault = differ(left, left, i);
                if (fault < 0) {
                    return refusal(fault);
                }
                w = Orders.swapped(w, n, i, i + 1);
                i = Orders.firstStep(w, n, true);
            }
            return left.numberOf(0);
        }
    }

    /** BOXES, as the numbers that tell them. */
    private static final class Boxes {
        static boolean isShape(int k, int m) {
            return k >= 1 && k <= MOST_SIDE && m >= 1 && m <= MOST_SIDE;
        }

        static boolean isBox(int k, int m, int box) {
            if (!isShape(k, m) || box < 0 || box >= Figures.power(10, k)) {
                return false;
            }
            int ahead = m;
            for (int row = 1; row <= k; row++) {
                int here = figure(k, box, row);
                if (here > ahead) {
                    return false;
                }
                ahead = here;
            }
            return true;
        }

        static int figure(int k, int box, int row) {
            return Figures.at(box, k - row);
        }

        static int places(int k, int box) {
            int places = 0;
            for (int row = 1; row <= k; row++) {
                places += figure(k, box, row);
            }
            return places;
        }

        /** The i-th STRIP: row by row the figure is found by how many STRIPS go on from it. */
        static int stripAt(int k, int m, int box, int p, int i) {
            if (i < 0 || i >= strips(k, m, box, p, 1)) {
                return NONE;
            }
            int ahead = i;
            int rest = p;
            int strip = 0;
            for (int row = 1; row <= k; row++) {
                int more = 0;
                int most = Math.min(room(k, m, box, row), rest);
                int on = strips(k, m, box, rest, row + 1);
                while (more < most && ahead >= on) {
                    ahead -= on;
                    more++;
                    on = strips(k, m, box, rest - more, row + 1);
                }
                rest -= more;
                strip = strip * 10 + figure(k, box, row) + more;
            }
            return strip;
        }

        /** How much a row of a STRIP can be above that of the BOX. */
        private static int room(int k, int m, int box, int row) {
            return (row == 1 ? m : figure(k, box, row - 1)) - figure(k, box, row);
        }

        /** In how many ways the rows from this one on can become greater by p together. */
        private static int strips(int k, int m, int box, int p, int row) {
            if (row > k) {
                return p == 0 ? 1 : 0;
            }
            int many = 0;
            int most = Math.min(room(k, m, box, row), p);
            for (int more = 0; more <= most; more++) {
                many += strips(k, m, box, p - more, row + 1);
            }
            return many;
        }

        static int toOrder(int k, int m, int box) {
            int order = 0;
            int seen = 0;
            for (int i = 1; i <= k; i++) {
                int figure = i + figure(k, box, k + 1 - i);
                seen |= 1 << figure;
                order = order * 10 + figure;
            }
            for (int figure = 1; figure <= k + m; figure++) {
                if ((seen >> figure & 1) == 0) {
                    order = order * 10 + figure;
                }
            }
            return order;
        }

        /** All BOXES with so many rows left and figures up to the limit go into the row behind those it has. */
        private static int gather(int[] into, int have, int rows, int limit, int ahead) {
            if (rows <= 0) {
                if (have < 0 || have >= into.length) {
                    return have;
                }
                into[have] = ahead;
                return have + 1;
            }
            int many = have;
            for (int figure = 0; figure <= limit; figure++) {
                many = gather(into, many, rows - 1, figure, ahead * 10 + figure);
            }
            return many;
        }
    }

    /** Counts FILLINGS, place by place in the order in which they are gone through. */
    private static final class Filler {
        private final int[] inner = new int[MOST_SIDE + 1];
        private final int[] outer = new int[MOST_SIDE + 1];
        private final int[] left = new int[MOST_SIDE + 1];
        private final int[] used = new int[MOST_SIDE + 1];
        private final int[][] cells = new int[MOST_SIDE + 1][MOST_SIDE + 1];

        int howMany(int k, int a, int b, int c) {
            if (k > MOST_SIDE || Boxes.places(k, a) + Boxes.places(k, b) != Boxes.places(k, c)) {
                return 0;
            }
            for (int row = 1; row <= k; row++) {
                inner[row] = Math.min(Boxes.figure(k, a, row), MOST_SIDE);
                outer[row] = Math.min(Boxes.figure(k, c, row), MOST_SIDE);
                left[row] = Boxes.figure(k, b, row);
                used[row] = 0;
                if (inner[row] > outer[row]) {
                    return 0;
                }
            }
            return fill(this, k, 1, outer[1]);
        }

        /** In how many ways the places from this one on can be filled, behind what stands in the others. */
        private static int fill(Filler f, int k, int row, int column) {
            if (row > k || row > MOST_SIDE) {
                return 1;
            }
            if (column <= f.inner[row] || column > MOST_SIDE) {
                return fill(f, k, row + 1, row < k ? f.outer[row + 1] : 0);
            }
            boolean hasOver = row > 1 && column > f.inner[row - 1];
            int least = hasOver ? f.cells[row - 1][column] + 1 : 1;
            int most = column < f.outer[row] ? f.cells[row][column + 1] : k;
            int many = 0;
            for (int number = Math.max(least, 1); number <= Math.min(most, k); number++) {
                if (f.left[number] > 0 && (number == 1 || f.used[number] < f.used[number - 1])) {
                    f.cells[row][column] = number;
                    f.left[number]--;
                    f.used[number]++;
                    many += fill(f, k, row, column - 1);
                    f.left[number]++;
                    f.used[number]--;
                }
            }
            return many;
        }
    }

    /** THE LIST. */
    private static final class Conditions {
        private static final int MOST = 16;
        /** So many BOXES there are of 4 rows, 4 columns. */
        private static final int MOST_BOXES = 70;

        private final Filler filler = new Filler();
        private final int[] boxes = new int[MOST];
        private final int[] all = new int[MOST_BOXES];
        private final long[] often = new long[MOST_BOXES];
        private final long[] next = new long[MOST_BOXES];
        private int k = 2;
        private int m = 2;
        private int size = 0;

        Filler filler() {
            return filler;
        }

        int rows() {
            return k;
        }

        int columns() {
            return m;
        }

        int size() {
            return size;
        }

        int restart(int rows, int columns) {
            int gone = size;
            k = rows;
            m = columns;
            size = 0;
            return gone;
        }

        int append(int box) {
            if (size >= MOST) {
                return FULL;
            }
            boxes[size] = box;
            size++;
            return size;
        }

        /** The NUMBER. By rising numbers 0 .. 0 is the first BOX and m .. m the last. */
        long total() {
            int many = Math.min(Boxes.gather(all, 0, k, m, 0), MOST_BOXES);
            for (int c = 0; c < many; c++) {
                often[c] = c == 0 ? 1 : 0;
            }
            for (int at = 0; at < size; at++) {
                putOn(boxes[at], many);
            }
            return many > 0 ? often[many - 1] : 0;
        }

        private void putOn(int b, int many) {
            for (int c = 0; c < many; c++) {
                next[c] = 0;
                for (int a = 0; a < many; a++) {
                    if (often[a] != 0) {
                        next[c] += often[a] * filler.howMany(k, all[a], b, all[c]);
                    }
                }
            }
            for (int c = 0; c < many; c++) {
                often[c] = next[c];
            }
        }

        long digestOn(long before) {
            long h = before;
            for (int at = 0; at < size; at++) {
                h = 31 * h + boxes[at];
            }
            return h;
        }
    }

    /**
     * A LINE through points x and y, by the six rests x_i y_j - x_j y_i (01, 02, 03, 12, 13, 23),
     * the first of these that is not 0 made 1: so one LINE is told by just one row.
     */
    private static final class Line {
        private static final int RESTS = 6;

        private final int[] rests = new int[RESTS];
        private boolean there = false;

        boolean isThere() {
            return there;
        }

        void vanish() {
            there = false;
        }

        /** Whether the two are not one POINT; then this is the LINE through them. */
        boolean span(int x, int y, int q) {
            int at = 0;
            for (int i = 0; i < 3; i++) {
                for (int j = i + 1; j < 4 && at < RESTS; j++) {
                    rests[at] = rest(Space.figure(x, i) * Space.figure(y, j) - Space.figure(x, j) * Space.figure(y, i), q);
                    at++;
                }
            }
            there = normalize(q);
            return there;
        }

        private boolean normalize(int q) {
            int lead = 0;
            for (int at = 0; at < RESTS && lead == 0; at++) {
                lead = rests[at];
            }
            if (lead == 0) {
                return false;
            }
            int factor = 1;
            while (factor < q && rest(factor * lead, q) != 1) {
                factor++;
            }
            for (int at = 0; at < RESTS; at++) {
                rests[at] = rest(rests[at] * factor, q);
            }
            return true;
        }

        void copy(Line other) {
            for (int at = 0; at < RESTS; at++) {
                rests[at] = other.rests[at];
            }
            there = other.there;
        }

        boolean isLike(Line other) {
            for (int at = 0; at < RESTS; at++) {
                if (rests[at] != other.rests[at]) {
                    return false;
                }
            }
            return true;
        }

        /** LINES MEET where the determinant of two POINTS of each is 0. */
        boolean crosses(Line other, int q) {
            int determinant = 0;
            for (int at = 0; at < RESTS; at++) {
                int one = rests[at] * other.rests[RESTS - 1 - at];
                determinant += at == 1 || at == 4 ? -one : one;
            }
            return rest(determinant, q) == 0;
        }

        /** A POINT is on it where each determinant of three rests of it and of two POINTS of the LINE is 0. */
        boolean holds(int point, int q) {
            for (int out = 0; out < 4; out++) {
                int i = out == 0 ? 1 : 0;
                int j = out <= 1 ? 2 : 1;
                int k = out <= 2 ? 3 : 2;
                int determinant = Space.figure(point, i) * pair(j, k) - Space.figure(point, j) * pair(i, k)
                        + Space.figure(point, k) * pair(i, j);
                if (rest(determinant, q) != 0) {
                    return false;
                }
            }
            return true;
        }

        private int pair(int i, int j) {
            int at = i == 0 ? j - 1 : i + j;
            return at >= 0 && at < RESTS ? rests[at] : 0;
        }

        private static int rest(int value, int q) {
            return q > 0 ? Math.floorMod(value, q) : 0;
        }
    }

    /** SPACE over a FIELD, and the RODS in it. */
    private static final class Space {
        private static final int RODS = 8;
        private static final int FIGURES = 4;

        private final Line[] rods = new Line[RODS];
        private final Line probe = new Line();
        private int q = 2;

        Space() {
            for (int rod = 0; rod < RODS; rod++) {
                rods[rod] = new Line();
            }
        }

        static boolean isRod(int rod) {
            return rod >= 0 && rod < RODS;
        }

        static boolean areBits(int bits) {
            return bits >= 0 && bits < 1 << RODS;
        }

        /** The figure of a POINT at a place from 0. */
        static int figure(int point, int place) {
            return Figures.at(point, FIGURES - 1 - place);
        }

        int order() {
            return q;
        }

        boolean isPoint(int point) {
            if (point < 1 || point >= Figures.power(10, FIGURES)) {
                return false;
            }
            for (int place = 0; place < FIGURES; place++) {
                if (figure(point, place) >= q) {
                    return false;
                }
            }
            return true;
        }

        int change(int to) {
            int was = q;
            q = to;
            for (int rod = 0; rod < RODS; rod++) {
                rods[rod].vanish();
            }
            return was;
        }

        /** Whether the POINTS were two; else nothing is changed. */
        boolean lay(int rod, int a, int b) {
            if (!isRod(rod) || !probe.span(a, b, q)) {
                return false;
            }
            rods[rod].copy(probe);
            return true;
        }

        /** Whether there was one to remove. */
        boolean remove(int rod) {
            if (!isRod(rod) || !rods[rod].isThere()) {
                return false;
            }
            rods[rod].vanish();
            return true;
        }

        int howMet(int a, int b) {
            if (!isRod(a) || !isRod(b) || !rods[a].isThere() || !rods[b].isThere()) {
                return NULL;
            }
            if (rods[a].isLike(rods[b])) {
                return 2;
            }
            return rods[a].crosses(rods[b], q) ? 1 : 0;
        }

        int rodsThere() {
            int there = 0;
            for (int rod = 0; rod < RODS; rod++) {
                there += rods[rod].isThere() ? 1 : 0;
            }
            return there;
        }

        /** Whether each ROD that bits tell is there. */
        boolean areThere(int bits) {
            for (int rod = 0; rod < RODS; rod++) {
                if (isTold(bits, rod) && !rods[rod].isThere()) {
                    return false;
                }
            }
            return true;
        }

        private static boolean isTold(int bits, int rod) {
            return (bits >> rod & 1) == 1;
        }

        /** Each LINE is looked at once: through the two POINTS with a first 1, each with 0 where the other's stands. */
        int linesMeeting(int bits) {
            int found = 0;
            for (int first = 0; first < FIGURES - 1; first++) {
                for (int second = first + 1; second < FIGURES; second++) {
                    found += linesFrom(first, second, bits);
                }
            }
            return found;
        }

        private int linesFrom(int first, int second, int bits) {
            int found = 0;
            int ones = Figures.power(q, FIGURES - 2 - first);
            int others = Figures.power(q, FIGURES - 1 - second);
            for (int one = 0; one < ones; one++) {
                for (int other = 0; other < others; other++) {
                    probe.span(pointFrom(first, second, one), pointFrom(second, NONE, other), q);
                    if (crossesAll(bits)) {
                        found++;
                    }
                }
            }
            return found;
        }

        private boolean crossesAll(int bits) {
            for (int rod = 0; rod < RODS; rod++) {
                if (isTold(bits, rod) && !probe.crosses(rods[rod], q)) {
                    return false;
                }
            }
            return true;
        }

        int pointsOn(int bits) {
            int found = 0;
            for (int first = 0; first < FIGURES; first++) {
                int many = Figures.power(q, FIGURES - 1 - first);
                for (int at = 0; at < many; at++) {
                    if (isOnOne(pointFrom(first, NONE, at), bits)) {
                        found++;
                    }
                }
            }
            return found;
        }

        private boolean isOnOne(int point, int bits) {
            for (int rod = 0; rod < RODS; rod++) {
                if (isTold(bits, rod) && rods[rod].holds(point, q)) {
                    return true;
                }
            }
            return false;
        }

        /** The POINT with its first 1 at a place, 0 at the hole, and behind the 1 the figures that tell the number by q. */
        private int pointFrom(int first, int hole, int number) {
            int point = 0;
            int rest = number;
            for (int place = 0; place < FIGURES; place++) {
                int figure = place == first ? 1 : 0;
                if (place > first && place != hole && q > 0) {
                    figure = rest % q;
                    rest /= q;
                }
                point = point * 10 + figure;
            }
            return point;
        }
    }
}
