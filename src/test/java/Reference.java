import java.math.BigInteger;
import java.util.ArrayList;
import java.util.Arrays;
import java.util.Collections;
import java.util.HashMap;
import java.util.HashSet;
import java.util.List;
import java.util.Map;
import java.util.Set;
import java.util.TreeMap;
import java.util.TreeSet;

/**
 * The document once more, slowly and by its words, with other ways than the program's:
 * rows as lists, differences by a long division, fillings by weights, lines as sets of points.
 */
final class Reference {
    static final int NONE = -1, BAD = -2, NULL = -3, HIGH = -4, GREAT = -5, LONG = -6, FULL = -7;

    /** Terms by their exponents, the greatest first. */
    private static final class Poly extends TreeMap<String, BigInteger> {
        Poly() {
            super(Collections.reverseOrder());
        }

        void plus(String exponents, BigInteger number) {
            BigInteger all = getOrDefault(exponents, BigInteger.ZERO).add(number);
            if (all.signum() == 0) {
                remove(exponents);
            } else {
                put(exponents, all);
            }
        }

        int verdict() {
            for (BigInteger number : values()) {
                if (number.abs().compareTo(BigInteger.valueOf(100000000)) > 0) {
                    return GREAT;
                }
            }
            return size() > 600 ? LONG : 0;
        }
    }

    /** A refusal on the way. */
    private static final class Refused extends Exception {
        final int code;

        Refused(int code) {
            this.code = code;
        }
    }

    private final Poly[] sheets = new Poly[12];
    private int rows = 2;
    private int columns = 2;
    private final List<Integer> list = new ArrayList<>();
    private int q = 2;
    private final List<Set<Integer>> rods = new ArrayList<>(Collections.nCopies(8, null));

    // ---- orders

    private static List<Integer> row(int number) {
        List<Integer> row = new ArrayList<>();
        for (char c : String.valueOf(number).toCharArray()) {
            row.add(c - '0');
        }
        return row;
    }

    private static int told(List<Integer> row) {
        int number = 0;
        for (int figure : row) {
            number = 10 * number + figure;
        }
        return number;
    }

    static boolean isOrder(int order) {
        if (order <= 0 || String.valueOf(order).length() > 5) {
            return false;
        }
        List<Integer> sorted = row(order);
        Collections.sort(sorted);
        for (int i = 0; i < sorted.size(); i++) {
            if (sorted.get(i) != i + 1) {
                return false;
            }
        }
        return true;
    }

    private static final Map<Integer, List<Integer>> ORDERS = new HashMap<>();

    static List<Integer> allOrders(int n) {
        return ORDERS.computeIfAbsent(n, told -> {
            List<Integer> all = new ArrayList<>();
            for (int number = 1; number <= 54321; number++) {
                if (String.valueOf(number).length() == n && isOrder(number)) {
                    all.add(number);
                }
            }
            return all;
        });
    }

    private static int lengthOf(List<Integer> row) {
        int pairs = 0;
        for (int i = 0; i < row.size(); i++) {
            for (int j = i + 1; j < row.size(); j++) {
                pairs += row.get(i) > row.get(j) ? 1 : 0;
            }
        }
        return pairs;
    }

    int length(int order) {
        return isOrder(order) ? lengthOf(row(order)) : BAD;
    }

    int exchange(int order, int i) {
        if (!isOrder(order) || i < 1 || i > row(order).size() - 1) {
            return BAD;
        }
        List<Integer> row = row(order);
        Collections.swap(row, i - 1, i);
        return told(row);
    }

    int inverse(int order) {
        if (!isOrder(order)) {
            return BAD;
        }
        List<Integer> row = row(order);
        List<Integer> other = new ArrayList<>();
        for (int figure = 1; figure <= row.size(); figure++) {
            other.add(row.indexOf(figure) + 1);
        }
        return told(other);
    }

    int orders(int n, int length) {
        if (n < 1 || n > 5 || length < 0) {
            return BAD;
        }
        int many = 0;
        for (int order : allOrders(n)) {
            many += length(order) == length ? 1 : 0;
        }
        return many;
    }

    int step(int order, int r, int k) {
        if (!isOrder(order) || order > 9999 || r < 1 || r > row(order).size()) {
            return BAD;
        }
        List<Integer> row = row(order);
        row.add(row.size() + 1);
        TreeSet<Integer> come = new TreeSet<>();
        for (int a = 1; a <= r; a++) {
            for (int b = r + 1; b <= row.size(); b++) {
                List<Integer> other = new ArrayList<>(row);
                Collections.swap(other, a - 1, b - 1);
                if (lengthOf(other) == lengthOf(row) + 1) {
                    come.add(told(other));
                }
            }
        }
        return k < 0 || k >= come.size() ? NONE : new ArrayList<>(come).get(k);
    }

    // ---- polynomials

    private static boolean isSheet(int sheet) {
        return sheet >= 0 && sheet <= 11;
    }

    private static boolean areExponents(int exponents) {
        return exponents >= 0 && exponents <= 99999 && !String.valueOf(exponents).contains("9");
    }

    private static String key(int exponents) {
        return String.format("%05d", exponents);
    }

    int blank(int sheet) {
        if (!isSheet(sheet)) {
            return BAD;
        }
        sheets[sheet] = new Poly();
        return 1;
    }

    int lose(int sheet) {
        int had = terms(sheet);
        if (had >= 0) {
            sheets[sheet] = null;
        }
        return had;
    }

    private int becomes(int sheet, Poly made) {
        int verdict = made.verdict();
        if (verdict != 0) {
            return verdict;
        }
        sheets[sheet] = made;
        return made.size();
    }

    int add(int sheet, long number, int exponents) {
        BigInteger most = BigInteger.valueOf(100000000);
        if (!isSheet(sheet) || BigInteger.valueOf(number).abs().compareTo(most) > 0 || !areExponents(exponents)) {
            return BAD;
        }
        if (sheets[sheet] == null) {
            return NULL;
        }
        Poly made = new Poly();
        made.putAll(sheets[sheet]);
        made.plus(key(exponents), BigInteger.valueOf(number));
        return becomes(sheet, made);
    }

    int terms(int sheet) {
        if (!isSheet(sheet)) {
            return BAD;
        }
        return sheets[sheet] == null ? NULL : sheets[sheet].size();
    }

    int exponents(int sheet, int t) {
        if (terms(sheet) < 0) {
            return terms(sheet);
        }
        if (t < 0 || t >= terms(sheet)) {
            return BAD;
        }
        return Integer.parseInt(new ArrayList<>(sheets[sheet].keySet()).get(t));
    }

    static long asLong(int refusal) {
        return Long.MIN_VALUE + -refusal;
    }

    long number(int sheet, int exponents) {
        if (!isSheet(sheet) || !areExponents(exponents)) {
            return asLong(BAD);
        }
        if (sheets[sheet] == null) {
            return asLong(NULL);
        }
        return sheets[sheet].getOrDefault(key(exponents), BigInteger.ZERO).longValueExact();
    }

    int sum(int c, int a, int b, int m) {
        if (!isSheet(c) || !isSheet(a) || !isSheet(b) || m < -1000000 || m > 1000000) {
            return BAD;
        }
        if (sheets[a] == null || sheets[b] == null) {
            return NULL;
        }
        return becomes(c, sum(sheets[a], sheets[b], m));
    }

    private static Poly sum(Poly a, Poly b, int m) {
        Poly made = new Poly();
        made.putAll(a);
        for (Map.Entry<String, BigInteger> term : b.entrySet()) {
            made.plus(term.getKey(), term.getValue().multiply(BigInteger.valueOf(m)));
        }
        return made;
    }

    private static Poly product(Poly a, Poly b) throws Refused {
        Poly made = new Poly();
        for (Map.Entry<String, BigInteger> s : a.entrySet()) {
            for (Map.Entry<String, BigInteger> t : b.entrySet()) {
                char[] together = new char[5];
                for (int i = 0; i < 5; i++) {
                    together[i] = (char) (s.getKey().charAt(i) + t.getKey().charAt(i) - '0');
                    if (together[i] > '8') {
                        throw new Refused(HIGH);
                    }
                }
                made.plus(new String(together), s.getValue().multiply(t.getValue()));
            }
        }
        return made;
    }

    int product(int c, int a, int b) {
        if (!isSheet(c) || !isSheet(a) || !isSheet(b)) {
            return BAD;
        }
        if (sheets[a] == null || sheets[b] == null) {
            return NULL;
        }
        try {
            return becomes(c, product(sheets[a], sheets[b]));
        } catch (Refused r) {
            return r.code;
        }
    }

    private static String exchanged(String exponents, int i) {
        char[] figures = exponents.toCharArray();
        char figure = figures[i - 1];
        figures[i - 1] = figures[i];
        figures[i] = figure;
        return new String(figures);
    }

    private static Poly turned(Poly a, int i) {
        Poly made = new Poly();
        for (Map.Entry<String, BigInteger> term : a.entrySet()) {
            made.put(exchanged(term.getKey(), i), term.getValue());
        }
        return made;
    }

    int turned(int c, int a, int i) {
        if (!isSheet(c) || !isSheet(a) || i < 1 || i > 4) {
            return BAD;
        }
        return sheets[a] == null ? NULL : becomes(c, turned(sheets[a], i));
    }

    private static String moved(String exponents, int letter, int by) {
        char[] figures = exponents.toCharArray();
        figures[letter - 1] += by;
        return new String(figures);
    }

    /** A long division by letter i less letter i + 1: always the term with the most of letter i goes. */
    private static Poly difference(Poly a, int i) {
        Poly rest = sum(a, turned(a, i), -1);
        Poly made = new Poly();
        while (!rest.isEmpty()) {
            String top = null;
            for (String exponents : rest.keySet()) {
                if (top == null || exponents.charAt(i - 1) > top.charAt(i - 1)) {
                    top = exponents;
                }
            }
            if (top.charAt(i - 1) == '0') {
                throw new IllegalStateException("a rest is left");
            }
            BigInteger number = rest.get(top);
            String quotient = moved(top, i, -1);
            made.plus(quotient, number);
            rest.plus(top, number.negate());
            rest.plus(moved(quotient, i + 1, 1), number);
        }
        return made;
    }

    int difference(int c, int a, int i) {
        if (!isSheet(c) || !isSheet(a) || i < 1 || i > 4) {
            return BAD;
        }
        return sheets[a] == null ? NULL : becomes(c, difference(sheets[a], i));
    }

    /** By the last place that the document allows, where the program takes the first. */
    private Poly polynomialOf(int order) {
        List<Integer> row = row(order);
        for (int i = row.size() - 1; i >= 1; i--) {
            if (row.get(i - 1) < row.get(i)) {
                return difference(polynomialOf(exchange(order, i)), i);
            }
        }
        Poly made = new Poly();
        StringBuilder exponents = new StringBuilder();
        for (int letter = 1; letter <= 5; letter++) {
            exponents.append(Math.max(0, row.size() - letter));
        }
        made.put(exponents.toString(), BigInteger.ONE);
        return made;
    }

    private static final Map<Integer, Poly> KNOWN = new HashMap<>();

    private Poly known(int order) {
        if (!KNOWN.containsKey(order)) {
            KNOWN.put(order, polynomialOf(order));
        }
        return KNOWN.get(order);
    }

    int polynomial(int c, int order) {
        if (!isSheet(c) || !isOrder(order)) {
            return BAD;
        }
        return becomes(c, known(order));
    }

    private long part(Poly a, int order) throws Refused {
        Poly now = a;
        int w = order;
        while (true) {
            int fall = 0;
            List<Integer> row = row(w);
            for (int i = row.size() - 1; i >= 1; i--) {
                fall = row.get(i - 1) > row.get(i) ? i : fall;
            }
            if (fall == 0) {
                return now.getOrDefault("00000", BigInteger.ZERO).longValueExact();
            }
            now = difference(now, fall);
            if (now.verdict() != 0) {
                throw new Refused(now.verdict());
            }
            w = exchange(w, fall);
        }
    }

    long part(int a, int order) {
        if (!isSheet(a) || !isOrder(order)) {
            return asLong(BAD);
        }
        if (sheets[a] == null) {
            return asLong(NULL);
        }
        try {
            return part(sheets[a], order);
        } catch (Refused r) {
            return asLong(r.code);
        }
    }

    long constant(int u, int v, int w) {
        if (!isOrder(u) || !isOrder(v) || !isOrder(w)) {
            return asLong(BAD);
        }
        try {
            return part(product(known(u), known(v)), w);
        } catch (Refused r) {
            return asLong(r.code);
        }
    }

    int same(int a, int b) {
        if (!isSheet(a) || !isSheet(b)) {
            return BAD;
        }
        if (sheets[a] == null || sheets[b] == null) {
            return NULL;
        }
        return sheets[a].equals(sheets[b]) ? 1 : 0;
    }

    // ---- boxes

    private static int[] figures(int k, int box) {
        int[] figures = new int[k];
        int rest = box;
        for (int i = k - 1; i >= 0; i--) {
            figures[i] = rest % 10;
            rest /= 10;
        }
        return figures;
    }

    static boolean isBox(int k, int m, int box) {
        if (k < 1 || k > 4 || m < 1 || m > 4 || box < 0 || String.valueOf(box).length() > k) {
            return false;
        }
        int[] figures = figures(k, box);
        for (int i = 0; i < k; i++) {
            if (figures[i] > m || i > 0 && figures[i] > figures[i - 1]) {
                return false;
            }
        }
        return true;
    }

    private static final Map<Integer, List<Integer>> BOXES = new HashMap<>();

    static List<Integer> allBoxes(int k, int m) {
        return BOXES.computeIfAbsent(10 * k + m, told -> {
            List<Integer> all = new ArrayList<>();
            for (int box = 0; box <= 4444; box++) {
                if (isBox(k, m, box)) {
                    all.add(box);
                }
            }
            return all;
        });
    }

    private static int size(int k, int box) {
        return Arrays.stream(figures(k, box)).sum();
    }

    int strip(int k, int m, int box, int p, int i) {
        if (!isBox(k, m, box) || p < 0 || p > 16) {
            return BAD;
        }
        List<Integer> strips = new ArrayList<>();
        int[] first = figures(k, box);
        for (int other : allBoxes(k, m)) {
            int[] figures = figures(k, other);
            boolean isOne = size(k, other) == size(k, box) + p;
            for (int at = 0; at < k; at++) {
                isOne &= figures[at] >= first[at] && (at == 0 || figures[at] <= first[at - 1]);
            }
            if (isOne) {
                strips.add(other);
            }
        }
        return i < 0 || i >= strips.size() ? NONE : strips.get(i);
    }

    private static final Map<String, Integer> FILLED = new HashMap<>();

    int fillings(int k, int m, int a, int b, int c) {
        if (!isBox(k, m, a) || !isBox(k, m, b) || !isBox(k, m, c)) {
            return BAD;
        }
        return FILLED.computeIfAbsent(k + ":" + a + ":" + b + ":" + c, told -> byWeights(k, a, b, c));
    }

    /**
     * The same number as a count with signs: each tableau of b moves a by its content, and what does not fall
     * on a BOX is put right by exchanges (the rule of Racah and Speiser).
     */
    private static int byWeights(int k, int a, int b, int c) {
        int all = 0;
        int[] due = figures(k, c);
        for (Map.Entry<List<Integer>, Integer> weight : weights(k, b).entrySet()) {
            int[] moved = figures(k, a);
            for (int i = 0; i < k; i++) {
                moved[i] += weight.getKey().get(i) + k - 1 - i;
            }
            int sign = 1;
            for (int i = 0; i < k; i++) {
                for (int j = 0; j < k - 1; j++) {
                    if (moved[j] == moved[j + 1]) {
                        sign = 0;
                    }
                    if (moved[j] < moved[j + 1]) {
                        int figure = moved[j];
                        moved[j] = moved[j + 1];
                        moved[j + 1] = figure;
                        sign = -sign;
                    }
                }
            }
            for (int i = 0; i < k; i++) {
                moved[i] -= k - 1 - i;
            }
            if (Arrays.equals(moved, due)) {
                all += sign * weight.getValue();
            }
        }
        return all;
    }

    /** How many tableaux of b (rows not falling, columns rising, numbers 1 .. k) have each content. */
    private static Map<List<Integer>, Integer> weights(int k, int b) {
        return WEIGHTS.computeIfAbsent(10000 * k + b, told -> {
            Map<List<Integer>, Integer> weights = new HashMap<>();
            peel(k, b, k, new int[k], weights);
            return weights;
        });
    }

    private static final Map<Integer, Map<List<Integer>, Integer>> WEIGHTS = new HashMap<>();

    /** The places of the greatest number lie at the ends of the rows, no two in a column. */
    private static void peel(int k, int box, int number, int[] content, Map<List<Integer>, Integer> weights) {
        if (number == 0) {
            if (box == 0) {
                List<Integer> key = new ArrayList<>();
                for (int many : content) {
                    key.add(many);
                }
                weights.merge(key, 1, Integer::sum);
            }
            return;
        }
        int[] outer = figures(k, box);
        for (int inner : allBoxes(k, 4)) {
            int[] figures = figures(k, inner);
            boolean fits = true;
            for (int i = 0; i < k; i++) {
                fits &= figures[i] <= outer[i] && (i == k - 1 || figures[i] >= outer[i + 1]);
            }
            if (fits) {
                content[number - 1] = size(k, box) - size(k, inner);
                peel(k, inner, number - 1, content, weights);
            }
        }
    }

    int orderOf(int k, int m, int box) {
        if (!isBox(k, m, box) || k + m > 5) {
            return BAD;
        }
        int[] figures = figures(k, box);
        List<Integer> row = new ArrayList<>();
        for (int i = 1; i <= k; i++) {
            row.add(i + figures[k + 1 - i - 1]);
        }
        for (int figure = 1; figure <= k + m; figure++) {
            if (!row.contains(figure)) {
                row.add(figure);
            }
        }
        return told(row);
    }

    int begin(int k, int m) {
        if (k < 1 || k > 4 || m < 1 || m > 4) {
            return BAD;
        }
        rows = k;
        columns = m;
        int gone = list.size();
        list.clear();
        return gone;
    }

    int condition(int box) {
        if (!isBox(rows, columns, box)) {
            return BAD;
        }
        if (list.size() == 16) {
            return FULL;
        }
        list.add(box);
        return list.size();
    }

    long meeting() {
        Map<Integer, Long> often = new TreeMap<>();
        often.put(0, 1L);
        for (int b : list) {
            Map<Integer, Long> next = new TreeMap<>();
            for (int a : often.keySet()) {
                for (int c : allBoxes(rows, columns)) {
                    if (size(rows, c) == size(rows, a) + size(rows, b)) {
                        long more = often.get(a) * fillings(rows, columns, a, b, c);
                        if (more != 0) {
                            next.merge(c, more, Long::sum);
                        }
                    }
                }
            }
            often = next;
        }
        int full = Integer.parseInt(String.valueOf(columns).repeat(rows));
        return often.getOrDefault(full, 0L);
    }

    // ---- space

    private static final Map<Integer, Set<Set<Integer>>> LINES = new HashMap<>();

    private static int[] coordinates(int point) {
        return figures(4, point);
    }

    private static int multiple(int q, int factor, int point) {
        int[] figures = coordinates(point);
        int made = 0;
        for (int figure : figures) {
            made = made * 10 + figure * factor % q;
        }
        return made;
    }

    private static int plus(int q, int a, int b) {
        int[] first = coordinates(a);
        int[] second = coordinates(b);
        int made = 0;
        for (int i = 0; i < 4; i++) {
            made = made * 10 + (first[i] + second[i]) % q;
        }
        return made;
    }

    /** Of a point's multiples the least. */
    private static int least(int q, int point) {
        int least = point;
        for (int factor = 1; factor < q; factor++) {
            least = Math.min(least, multiple(q, factor, point));
        }
        return least;
    }

    private static boolean isPoint(int q, int point) {
        if (point <= 0 || point > 9999) {
            return false;
        }
        for (int figure : coordinates(point)) {
            if (figure >= q) {
                return false;
            }
        }
        return true;
    }

    static Set<Integer> line(int q, int a, int b) {
        Set<Integer> line = new HashSet<>();
        for (int s = 0; s < q; s++) {
            for (int t = 0; t < q; t++) {
                int point = plus(q, multiple(q, s, a), multiple(q, t, b));
                if (point != 0) {
                    line.add(least(q, point));
                }
            }
        }
        return line;
    }

    static List<Integer> allPoints(int q) {
        List<Integer> all = new ArrayList<>();
        for (int point = 1; point <= 4444; point++) {
            if (isPoint(q, point) && least(q, point) == point) {
                all.add(point);
            }
        }
        return all;
    }

    static Set<Set<Integer>> allLines(int q) {
        return LINES.computeIfAbsent(q, told -> {
            Set<Set<Integer>> lines = new HashSet<>();
            List<Integer> points = allPoints(q);
            for (int a : points) {
                for (int b : points) {
                    if (a < b) {
                        lines.add(line(q, a, b));
                    }
                }
            }
            return lines;
        });
    }

    private static boolean isRod(int rod) {
        return rod >= 0 && rod <= 7;
    }

    int field(int to) {
        if (to != 2 && to != 3 && to != 5) {
            return BAD;
        }
        int was = q;
        q = to;
        Collections.fill(rods, null);
        return was;
    }

    int rod(int rod, int a, int b) {
        if (!isRod(rod) || !isPoint(q, a) || !isPoint(q, b) || least(q, a) == least(q, b)) {
            return BAD;
        }
        rods.set(rod, line(q, a, b));
        return 1;
    }

    int drop(int rod) {
        if (!isRod(rod)) {
            return BAD;
        }
        return rods.set(rod, null) == null ? NULL : 1;
    }

    private static boolean haveCommon(Set<Integer> a, Set<Integer> b) {
        return !Collections.disjoint(a, b);
    }

    int meet(int a, int b) {
        if (!isRod(a) || !isRod(b)) {
            return BAD;
        }
        if (rods.get(a) == null || rods.get(b) == null) {
            return NULL;
        }
        return rods.get(a).equals(rods.get(b)) ? 2 : haveCommon(rods.get(a), rods.get(b)) ? 1 : 0;
    }

    private List<Set<Integer>> toldRods(int bits) {
        List<Set<Integer>> toldRods = new ArrayList<>();
        for (int rod = 0; rod < 8; rod++) {
            if ((bits & 1 << rod) != 0) {
                toldRods.add(rods.get(rod));
            }
        }
        return toldRods;
    }

    int lines(int bits) {
        if (bits < 0 || bits > 255) {
            return BAD;
        }
        List<Set<Integer>> toldRods = toldRods(bits);
        if (toldRods.contains(null)) {
            return NULL;
        }
        int many = 0;
        for (Set<Integer> line : allLines(q)) {
            boolean meetsAll = true;
            for (Set<Integer> rod : toldRods) {
                meetsAll &= haveCommon(line, rod);
            }
            many += meetsAll ? 1 : 0;
        }
        return many;
    }

    int points(int bits) {
        if (bits < 0 || bits > 255) {
            return BAD;
        }
        Set<Integer> points = new HashSet<>();
        for (Set<Integer> rod : toldRods(bits)) {
            if (rod == null) {
                return NULL;
            }
            points.addAll(rod);
        }
        return points.size();
    }

    int count(int what) {
        switch (what) {
            case 0:
                return (int) Arrays.stream(sheets).filter(sheet -> sheet != null).count();
            case 1:
                return list.size();
            case 2:
                return rows;
            case 3:
                return columns;
            case 4:
                return q;
            case 5:
                return (int) rods.stream().filter(rod -> rod != null).count();
            default:
                return BAD;
        }
    }

    long digest() {
        List<Long> all = new ArrayList<>();
        for (int what = 0; what <= 5; what++) {
            all.add((long) count(what));
        }
        for (int sheet = 0; sheet <= 11; sheet++) {
            if (sheets[sheet] != null) {
                all.add((long) sheet);
                all.add((long) sheets[sheet].size());
                for (Map.Entry<String, BigInteger> term : sheets[sheet].entrySet()) {
                    all.add(Long.parseLong(term.getKey()));
                    all.add(term.getValue().longValueExact());
                }
            }
        }
        for (int box : list) {
            all.add((long) box);
        }
        BigInteger h = BigInteger.valueOf(17);
        for (long each : all) {
            h = h.multiply(BigInteger.valueOf(31)).add(BigInteger.valueOf(each));
        }
        return h.longValue();
    }
}
