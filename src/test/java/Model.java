import java.math.BigInteger;
import java.util.ArrayList;
import java.util.Arrays;
import java.util.HashSet;
import java.util.List;
import java.util.Map;
import java.util.Set;
import java.util.TreeMap;
import java.util.TreeSet;

/**
 * The document once more, in numbers without bounds and with the library's collections: slow and plain,
 * and written apart from the class, so that both are seldom wrong alike.
 */
public final class Model {
    private static final BigInteger LEAST = BigInteger.valueOf(Long.MIN_VALUE);
    private static final BigInteger GREATEST = BigInteger.valueOf(Long.MAX_VALUE);
    private static final long NO = Long.MIN_VALUE;

    /** A sum or product that no long can tell. */
    private static final class Beyond extends RuntimeException {
        private static final long serialVersionUID = 1;

        Beyond() {
            super(null, null, false, false);
        }
    }

    private static final class State {
        int n = 1;
        int quota = 1;
        int estate = 0;
        int[] weights = new int[9];
        int[] label = {0, 1, 2, 3, 4, 5, 6, 7, 8};
        Map<Set<Integer>, Integer> edges = new java.util.HashMap<>();
        List<List<BigInteger>> games = new ArrayList<>();

        State(int n) {
            this.n = n;
            for (int g = 0; g < 4; g++) {
                games.add(new ArrayList<>(java.util.Collections.nCopies(1 << n, BigInteger.ZERO)));
            }
        }

        State(State other) {
            n = other.n;
            quota = other.quota;
            estate = other.estate;
            weights = other.weights.clone();
            label = other.label.clone();
            edges = new java.util.HashMap<>(other.edges);
            for (List<BigInteger> game : other.games) {
                games.add(new ArrayList<>(game));
            }
        }
    }

    private State s = new State(1);
    private State kept = null;
    private String tape = "";
    private String paper = "";
    private final long[][] rows = new long[4][];

    private static BigInteger fit(BigInteger v) {
        if (v.compareTo(LEAST) < 0 || v.compareTo(GREATEST) > 0) {
            throw new Beyond();
        }
        return v;
    }

    private static BigInteger big(long v) {
        return BigInteger.valueOf(v);
    }

    private static BigInteger fact(int k) {
        return k <= 1 ? BigInteger.ONE : big(k).multiply(fact(k - 1));
    }

    private boolean game(int g) {
        return 0 <= g && g <= 3;
    }

    private boolean partner(int p) {
        return 0 <= p && p <= s.n - 1;
    }

    private boolean aSet(int set) {
        return 0 <= set && set <= (1 << s.n) - 1;
    }

    private static boolean in(int set, int p) {
        return (set & (1 << p)) != 0;
    }

    private static List<Integer> members(int set) {
        List<Integer> found = new ArrayList<>();
        for (int p = 0; p < 9; p++) {
            if (in(set, p)) {
                found.add(p);
            }
        }
        return found;
    }

    private BigInteger v(int g, int set) {
        return s.games.get(g).get(set);
    }

    private int all() {
        return (1 << s.n) - 1;
    }

    private static boolean told(long v) {
        return Math.abs(v) <= 1000000000000L && v != Long.MIN_VALUE;
    }

    // ---- what is told

    public int partners(int n) {
        if (n < 1 || n > 9) {
            return -2;
        }
        s = new State(n);
        return n;
    }

    public int value(int g, int set, long v) {
        if (!game(g) || !aSet(set) || set == 0) {
            return -1;
        }
        if (!told(v)) {
            return -2;
        }
        s.games.get(g).set(set, big(v));
        return 1;
    }

    public long valueOf(int g, int set) {
        return game(g) && aSet(set) ? v(g, set).longValueExact() : NO;
    }

    public int weight(int p, int w) {
        if (!partner(p)) {
            return -1;
        }
        if (w < 0 || w > 1000) {
            return -2;
        }
        int was = s.weights[p];
        s.weights[p] = w;
        return was;
    }

    public int quota(int what, int v) {
        if (what < 0 || what > 1) {
            return -1;
        }
        if (v < 0 || v > 9999) {
            return -2;
        }
        int was;
        if (what == 0) {
            was = s.quota;
            s.quota = v;
        } else {
            was = s.estate;
            s.estate = v;
        }
        return was;
    }

    private Set<Integer> two(int a, int b) {
        return new TreeSet<>(Arrays.asList(a, b));
    }

    public int edge(int a, int b, int worth) {
        if (!partner(a) || !partner(b) || a == b) {
            return -1;
        }
        if (worth > 9999 || worth < -9999) {
            return -2;
        }
        Integer was = s.edges.put(two(a, b), worth);
        return was != null && was.intValue() == worth ? 0 : 1;
    }

    public int cut(int a, int b) {
        if (!partner(a) || !partner(b) || a == b) {
            return -1;
        }
        return s.edges.remove(two(a, b)) == null ? -3 : 1;
    }

    public int unite(int p, int other) {
        if (!partner(p) || !partner(other)) {
            return -1;
        }
        int fresh = 100;
        while (new HashSet<>(boxed(s.label)).contains(fresh)) {
            fresh++;
        }
        s.label[p] = p == other ? fresh : s.label[other];
        return union(p);
    }

    private static List<Integer> boxed(int[] a) {
        List<Integer> found = new ArrayList<>();
        for (int x : a) {
            found.add(x);
        }
        return found;
    }

    public int feed(int letter) {
        if (letter < 1 || letter > 127) {
            return -2;
        }
        if (tape.length() == 120) {
            return -4;
        }
        tape += (char) letter;
        return tape.length();
    }

    public int clear() {
        int was = tape.length();
        tape = "";
        return was;
    }

    /** Whether a text can go on so that it is one of values. */
    private boolean mayGoOn(String text) {
        return text.matches(pattern(true));
    }

    private String pattern(boolean begun) {
        StringBuilder letters = new StringBuilder();
        for (int p = 0; p < s.n; p++) {
            letters.append((char) ('a' + p)).append('?');
        }
        String set = "(?=[a-i])" + letters;
        String whole = set + "=-?[0-9]{1,9}";
        if (!begun) {
            return whole + "(;" + whole + ")*";
        }
        return "(" + whole + ";)*(" + letters + "|" + set + "=(-?[0-9]{0,9}))";
    }

    public int read(int g) {
        if (!game(g)) {
            return -1;
        }
        String text = tape;
        tape = "";
        for (int k = 1; k <= text.length(); k++) {
            if (!mayGoOn(text.substring(0, k))) {
                return -100 - (k - 1);
            }
        }
        if (!text.matches(pattern(false))) {
            return -100 - text.length();
        }
        String[] parts = text.split(";");
        for (String part : parts) {
            String[] sides = part.split("=");
            int set = 0;
            for (char c : sides[0].toCharArray()) {
                set |= 1 << (c - 'a');
            }
            s.games.get(g).set(set, new BigInteger(sides[1]));
        }
        return parts.length;
    }

    // ---- made and worked on

    private int put(int g, List<BigInteger> values) {
        int changed = 0;
        for (int set = 0; set <= all(); set++) {
            if (!values.get(set).equals(v(g, set))) {
                changed++;
            }
        }
        s.games.set(g, values);
        return changed;
    }

    private int weightOf(int set) {
        return members(set).stream().mapToInt(p -> s.weights[p]).sum();
    }

    private boolean wins(int set) {
        return weightOf(set) >= s.quota;
    }

    public int make(int g, int how) {
        if (!game(g) || how < 0 || how > 4) {
            return -1;
        }
        List<BigInteger> made = new ArrayList<>();
        for (int set = 0; set <= all(); set++) {
            long v = 0;
            if (how == 0 && set != 0 && wins(set)) {
                v = 1;
            } else if (how == 1) {
                v = weightOf(set);
            } else if (how == 2) {
                for (Map.Entry<Set<Integer>, Integer> e : s.edges.entrySet()) {
                    if (members(set).containsAll(e.getKey())) {
                        v += e.getValue();
                    }
                }
            } else if (how == 3) {
                v = members(set).stream().mapToInt(p -> s.weights[p]).max().orElse(0);
            } else if (how == 4 && set != 0) {
                v = Math.max(0, s.estate - (weightOf(all()) - weightOf(set)));
            }
            made.add(big(v));
        }
        put(g, made);
        return (int) made.stream().filter(x -> x.signum() != 0).count();
    }

    public int pairs(int g, int a, int b) {
        if (!game(g)) {
            return -1;
        }
        if (!aSet(a) || !aSet(b)) {
            return -2;
        }
        List<BigInteger> made = new ArrayList<>();
        for (int set = 0; set <= all(); set++) {
            made.add(big(Math.min(members(set & a).size(), members(set & b).size())));
        }
        put(g, made);
        return (int) made.stream().filter(x -> x.signum() != 0).count();
    }

    public int copy(int g, int other) {
        if (!game(g) || !game(other)) {
            return -1;
        }
        put(g, new ArrayList<>(s.games.get(other)));
        return 1;
    }

    public int add(int g, int other) {
        if (!game(g) || !game(other)) {
            return -1;
        }
        try {
            List<BigInteger> sum = new ArrayList<>();
            for (int set = 0; set <= all(); set++) {
                sum.add(fit(v(g, set).add(v(other, set))));
            }
            put(g, sum);
            return 1;
        } catch (Beyond e) {
            return -6;
        }
    }

    public int times(int g, int c) {
        if (!game(g)) {
            return -1;
        }
        if (c < -1000 || c > 1000) {
            return -2;
        }
        try {
            List<BigInteger> product = new ArrayList<>();
            for (int set = 0; set <= all(); set++) {
                product.add(fit(v(g, set).multiply(big(c))));
            }
            put(g, product);
            return 1;
        } catch (Beyond e) {
            return -6;
        }
    }

    public int dual(int g) {
        if (!game(g)) {
            return -1;
        }
        try {
            List<BigInteger> made = new ArrayList<>();
            for (int set = 0; set <= all(); set++) {
                made.add(fit(v(g, all()).subtract(v(g, all() - set))));
            }
            put(g, made);
            return 1;
        } catch (Beyond e) {
            return -6;
        }
    }

    public int cover(int g) {
        if (!game(g)) {
            return -1;
        }
        try {
            List<BigInteger> made = new ArrayList<>();
            made.add(BigInteger.ZERO);
            for (int set = 1; set <= all(); set++) {
                BigInteger best = null;
                for (int part = 1; part <= set; part++) {
                    boolean within = (part | set) == set;
                    if (within && in(part, members(set).get(0))) {
                        BigInteger sum = fit(v(g, part).add(made.get(set - part)));
                        best = best == null ? sum : best.max(sum);
                    }
                }
                made.add(best);
            }
            return put(g, made);
        } catch (Beyond e) {
            return -6;
        }
    }

    public int mask(int g, int set) {
        if (!game(g)) {
            return -1;
        }
        if (!aSet(set)) {
            return -2;
        }
        List<BigInteger> made = new ArrayList<>();
        for (int t = 0; t <= all(); t++) {
            made.add(v(g, t & set));
        }
        return put(g, made);
    }

    public int unanimous(int g, int set, long v) {
        if (!game(g)) {
            return -1;
        }
        if (!aSet(set) || set == 0 || !told(v)) {
            return -2;
        }
        try {
            List<BigInteger> made = new ArrayList<>();
            for (int t = 0; t <= all(); t++) {
                boolean whole = members(t).containsAll(members(set));
                made.add(whole ? fit(v(g, t).add(big(v))) : v(g, t));
            }
            put(g, made);
            return 1;
        } catch (Beyond e) {
            return -6;
        }
    }

    public int without(int g, int p) {
        if (!game(g) || !partner(p)) {
            return -1;
        }
        List<BigInteger> made = new ArrayList<>();
        for (int t = 0; t <= all(); t++) {
            made.add(v(g, in(t, p) ? t - (1 << p) : t));
        }
        return put(g, made);
    }

    public int join(int g, int p, int other) {
        if (!game(g) || !partner(p) || !partner(other) || p == other) {
            return -1;
        }
        List<BigInteger> made = new ArrayList<>();
        for (int t = 0; t <= all(); t++) {
            Set<Integer> set = new TreeSet<>(members(t));
            if (set.contains(p)) {
                set.add(other);
            } else {
                set.remove(other);
            }
            made.add(v(g, bits(set)));
        }
        return put(g, made);
    }

    private static int bits(Iterable<Integer> set) {
        int bits = 0;
        for (int p : set) {
            bits |= 1 << p;
        }
        return bits;
    }

    public int swap(int g, int a, int b) {
        if (!game(g) || !partner(a) || !partner(b)) {
            return -1;
        }
        List<BigInteger> made = new ArrayList<>();
        for (int t = 0; t <= all(); t++) {
            Set<Integer> set = new TreeSet<>();
            for (int p : members(t)) {
                set.add(p == a ? b : p == b ? a : p);
            }
            made.add(v(g, bits(set)));
        }
        return put(g, made);
    }

    public int differ(int g, int other) {
        if (!game(g) || !game(other)) {
            return -1;
        }
        for (int t = 0; t <= all(); t++) {
            if (!v(g, t).equals(v(other, t))) {
                return t;
            }
        }
        return -5;
    }

    public int unlike(int g) {
        return game(g) ? new HashSet<>(s.games.get(g)).size() : -1;
    }

    // ---- told orders

    /** The longs told from a place on, or null. */
    private long[] toldLongs(int row, int i) {
        if (row < 0 || row > 3 || rows[row] == null || i < 0 || (long) i + s.n > rows[row].length) {
            return null;
        }
        return Arrays.copyOfRange(rows[row], i, i + s.n);
    }

    private List<Integer> order(int row, int i) {
        long[] told = toldLongs(row, i);
        if (told == null) {
            return null;
        }
        List<Integer> order = new ArrayList<>();
        for (long x : told) {
            if (x < 0 || x >= s.n || order.contains((int) x)) {
                return null;
            }
            order.add((int) x);
        }
        return order;
    }

    public long adds(int g, int row, int i, int k) {
        List<Integer> order = order(row, i);
        if (!game(g) || order == null || k < 0 || k >= s.n) {
            return NO;
        }
        try {
            return fit(v(g, bits(order.subList(0, k + 1))).subtract(v(g, bits(order.subList(0, k))))).longValueExact();
        } catch (Beyond e) {
            return NO;
        }
    }

    public int pivot(int row, int i) {
        if (row < 0 || row > 3) {
            return -1;
        }
        List<Integer> order = order(row, i);
        if (order == null) {
            return -3;
        }
        for (int k = 0; k < s.n; k++) {
            if (!wins(bits(order.subList(0, k))) && wins(bits(order.subList(0, k + 1)))) {
                return order.get(k);
            }
        }
        return -5;
    }

    // ---- shares

    private static long fraction(BigInteger above, BigInteger below, int part) {
        BigInteger common = above.gcd(below);
        return (part == 0 ? above : below).divide(common).longValueExact();
    }

    private BigInteger added(int g, int t, int p) {
        return fit(v(g, t + (1 << p)).subtract(v(g, t)));
    }

    private BigInteger shareSum(int g, int p) {
        BigInteger sum = BigInteger.ZERO;
        for (int t = 0; t <= all(); t++) {
            if (!in(t, p)) {
                int size = members(t).size();
                BigInteger once = fit(added(g, t, p).multiply(fact(size)));
                sum = fit(sum.add(fit(once.multiply(fact(s.n - size - 1)))));
            }
        }
        return sum;
    }

    private static boolean part(int part) {
        return part == 0 || part == 1;
    }

    public long share(int g, int p, int part) {
        if (!game(g) || !partner(p) || !part(part)) {
            return NO;
        }
        try {
            return fraction(shareSum(g, p), fact(s.n), part);
        } catch (Beyond e) {
            return NO;
        }
    }

    public long power(int g, int p) {
        if (!game(g) || !partner(p)) {
            return NO;
        }
        try {
            BigInteger sum = BigInteger.ZERO;
            for (int t = 0; t <= all(); t++) {
                if (!in(t, p)) {
                    sum = fit(sum.add(added(g, t, p)));
                }
            }
            return sum.longValueExact();
        } catch (Beyond e) {
            return NO;
        }
    }

    private Map<Integer, Set<Integer>> unions() {
        Map<Integer, Set<Integer>> unions = new TreeMap<>();
        for (int p = 0; p < s.n; p++) {
            unions.computeIfAbsent(s.label[p], k -> new TreeSet<>()).add(p);
        }
        return unions;
    }

    public long owen(int g, int p, int part) {
        if (!game(g) || !partner(p) || !part(part)) {
            return NO;
        }
        try {
            Map<Integer, Set<Integer>> unions = unions();
            int m = unions.size();
            Set<Integer> own = unions.get(s.label[p]);
            int b = own.size();
            BigInteger sum = BigInteger.ZERO;
            for (int t = 0; t <= all(); t++) {
                List<Integer> set = members(t);
                boolean counts = !set.contains(p);
                int r = 0;
                for (Set<Integer> union : unions.values()) {
                    if (union != own) {
                        long there = union.stream().filter(set::contains).count();
                        counts &= there == 0 || there == union.size();
                        r += there == union.size() ? 1 : 0;
                    }
                }
                if (counts) {
                    int friends = (int) own.stream().filter(set::contains).count();
                    BigInteger once = added(g, t, p);
                    for (int k : new int[] {r, m - r - 1, friends, b - friends - 1}) {
                        once = fit(once.multiply(fact(k)));
                    }
                    sum = fit(sum.add(once));
                }
            }
            return fraction(sum, fact(m).multiply(fact(b)), part);
        } catch (Beyond e) {
            return NO;
        }
    }

    public long dividend(int g, int set) {
        if (!game(g) || !aSet(set)) {
            return NO;
        }
        try {
            Map<Integer, BigInteger> found = new TreeMap<>();
            for (int t = 0; t <= set; t++) {
                if ((t | set) == set) {
                    BigInteger left = t == 0 ? BigInteger.ZERO : v(g, t);
                    for (Map.Entry<Integer, BigInteger> e : found.entrySet()) {
                        if ((e.getKey() | t) == t) {
                            left = fit(left.subtract(e.getValue()));
                        }
                    }
                    found.put(t, left);
                }
            }
            return found.get(set).longValueExact();
        } catch (Beyond e) {
            return NO;
        }
    }

    private List<Integer> swingSets(int p) {
        List<Integer> found = new ArrayList<>();
        for (int t = 0; t <= all(); t++) {
            if (!in(t, p) && !wins(t) && wins(t + (1 << p))) {
                found.add(t);
            }
        }
        return found;
    }

    public int swings(int p, int how) {
        return partner(p) && (how == 0 || how == 1) ? swingSets(p).size() : -1;
    }

    public long pivots(int p, int part) {
        if (!partner(p) || !part(part)) {
            return NO;
        }
        BigInteger sum = BigInteger.ZERO;
        for (int t : swingSets(p)) {
            int size = members(t).size();
            sum = sum.add(fact(size).multiply(fact(s.n - size - 1)));
        }
        return fraction(sum, fact(s.n), part);
    }

    private boolean barely(int t) {
        return wins(t) && members(t).stream().noneMatch(p -> wins(t - (1 << p)));
    }

    public long holder(int p, int part) {
        if (!partner(p) || !part(part)) {
            return NO;
        }
        BigInteger above = BigInteger.ZERO;
        BigInteger below = BigInteger.ONE;
        int there = 0;
        for (int t = 1; t <= all(); t++) {
            if (barely(t)) {
                there++;
                if (in(t, p)) {
                    BigInteger size = big(members(t).size());
                    above = above.multiply(size).add(below);
                    below = below.multiply(size);
                }
            }
        }
        return there == 0 ? part : fraction(above, below.multiply(big(there)), part);
    }

    public int votes(int what) {
        if (what < 0 || what > 2) {
            return -1;
        }
        int count = 0;
        int best = -5;
        for (int t = 0; t <= all(); t++) {
            if (what == 0 ? wins(t) : what == 1 && barely(t)) {
                count++;
            }
            if (wins(t) && (best < 0 || members(t).size() < members(best).size())) {
                best = t;
            }
        }
        return what == 2 ? best : count;
    }

    // ---- kinds

    private boolean addsJust(int g, int p, BigInteger amount) {
        for (int t = 0; t <= all(); t++) {
            if (!in(t, p) && !v(g, t + (1 << p)).subtract(v(g, t)).equals(amount)) {
                return false;
            }
        }
        return true;
    }

    public int kind(int g, int what) {
        if (!game(g) || what < 0 || what > 2) {
            return -1;
        }
        Set<Integer> found = new TreeSet<>();
        for (int p = 0; p < s.n; p++) {
            boolean is = true;
            if (what < 2) {
                is = addsJust(g, p, what == 0 ? BigInteger.ZERO : v(g, 1 << p));
            } else {
                for (int t = 0; t <= all(); t++) {
                    is &= in(t, p) || v(g, t).signum() == 0;
                }
            }
            if (is) {
                found.add(p);
            }
        }
        return bits(found);
    }

    public int alike(int g, int p) {
        if (!game(g) || !partner(p)) {
            return -1;
        }
        Set<Integer> found = new TreeSet<>();
        for (int q = 0; q < s.n; q++) {
            boolean is = true;
            for (int t = 0; t <= all(); t++) {
                if (!in(t, p) && !in(t, q)) {
                    BigInteger one = v(g, t + (1 << p)).subtract(v(g, t));
                    is &= one.equals(v(g, t + (1 << q)).subtract(v(g, t)));
                }
            }
            if (is) {
                found.add(q);
            }
        }
        return bits(found);
    }

    public int carrier(int g) {
        if (!game(g)) {
            return -1;
        }
        for (int c = 0; c <= all(); c++) {
            boolean carries = true;
            for (int t = 0; t <= all() && carries; t++) {
                carries = v(g, t).equals(v(g, t & c));
            }
            if (carries) {
                return c;
            }
        }
        return all();
    }

    public int is(int g, int what) {
        if (!game(g) || what < 0 || what > 2) {
            return -1;
        }
        try {
            for (int a = 0; a <= all(); a++) {
                for (int b = a + 1; b <= all(); b++) {
                    if (what == 0 && (a | b) == b && v(g, b).compareTo(v(g, a)) < 0) {
                        return 0;
                    }
                    if (what == 1) {
                        BigInteger left = fit(v(g, a).add(v(g, b)));
                        BigInteger right = fit(v(g, a & b).add(v(g, a | b)));
                        if (left.compareTo(right) > 0) {
                            return 0;
                        }
                    }
                    if (what == 2 && (a & b) == 0 && fit(v(g, a).add(v(g, b))).compareTo(v(g, a + b)) > 0) {
                        return 0;
                    }
                }
            }
            return 1;
        } catch (Beyond e) {
            return -6;
        }
    }

    public int union(int p) {
        if (!partner(p)) {
            return -1;
        }
        for (int q = 0; q < s.n; q++) {
            if (s.label[q] == s.label[p]) {
                return q;
            }
        }
        return -99;
    }

    // ---- told shares

    private static BigInteger theirs(long[] told, int set) {
        BigInteger sum = BigInteger.ZERO;
        for (int p : members(set)) {
            sum = fit(sum.add(big(told[p])));
        }
        return sum;
    }

    private static boolean row(int row) {
        return row >= 0 && row < 4;
    }

    public int stable(int g, int row, int i) {
        if (!game(g) || !row(row)) {
            return -1;
        }
        long[] told = toldLongs(row, i);
        if (told == null) {
            return -3;
        }
        try {
            if (!theirs(told, all()).equals(v(g, all()))) {
                return 0;
            }
            for (int t = 0; t <= all(); t++) {
                if (v(g, t).compareTo(theirs(told, t)) > 0) {
                    return 0;
                }
            }
            return 1;
        } catch (Beyond e) {
            return -6;
        }
    }

    public int worst(int g, int row, int i) {
        if (!game(g) || !row(row)) {
            return -1;
        }
        long[] told = toldLongs(row, i);
        if (told == null) {
            return -3;
        }
        try {
            int found = -5;
            BigInteger greatest = null;
            for (int t = 1; t < all(); t++) {
                BigInteger here = fit(v(g, t).subtract(theirs(told, t)));
                if (greatest == null || here.compareTo(greatest) > 0) {
                    greatest = here;
                    found = t;
                }
            }
            return found;
        } catch (Beyond e) {
            return -6;
        }
    }

    public long excess(int g, int row, int i, int set) {
        long[] told = toldLongs(row, i);
        if (!game(g) || told == null || !aSet(set)) {
            return NO;
        }
        try {
            return fit(v(g, set).subtract(theirs(told, set))).longValueExact();
        } catch (Beyond e) {
            return NO;
        }
    }

    public int spell(int g) {
        if (!game(g)) {
            return -1;
        }
        try {
            List<String> texts = new ArrayList<>();
            for (int p = 0; p < s.n; p++) {
                BigInteger sum = shareSum(g, p);
                long below = fraction(sum, fact(s.n), 1);
                texts.add(fraction(sum, fact(s.n), 0) + (below == 1 ? "" : "/" + below));
            }
            paper = String.join(" ", texts);
            return paper.length();
        } catch (Beyond e) {
            return -6;
        }
    }

    public int paper(int i) {
        return i >= 0 && i < paper.length() ? paper.charAt(i) : -1;
    }

    public int told(int what) {
        int[] first = {s.n, s.quota, s.estate, s.edges.size(), unions().size(), tape.length(), paper.length(),
            weightOf(all())};
        if (what >= 0 && what < first.length) {
            return first[what];
        }
        return what >= 10 && what <= 18 && partner(what - 10) ? s.weights[what - 10] : -1;
    }

    public long worth(int a, int b) {
        if (!partner(a) || !partner(b)) {
            return NO;
        }
        Integer worth = s.edges.get(two(a, b));
        return worth == null ? NO : worth;
    }

    // ---- rows, the image

    public int row(int row, int n) {
        if (!row(row)) {
            return -1;
        }
        if (n > 20) {
            return -2;
        }
        if (n < 0) {
            return -14;
        }
        rows[row] = new long[n];
        return 1;
    }

    public int set(int row, int i, long v) {
        if (!row(row)) {
            return -1;
        }
        if (rows[row] == null) {
            return -11;
        }
        if (i < 0 || i >= rows[row].length) {
            return -13;
        }
        rows[row][i] = v;
        return 1;
    }

    public long get(int row, int i) {
        return row(row) && rows[row] != null && i >= 0 && i < rows[row].length ? rows[row][i] : NO;
    }

    public int lay(int row, int i, int g) {
        if (!row(row) || !game(g)) {
            return -1;
        }
        if (rows[row] == null) {
            return -11;
        }
        List<BigInteger> cut = new ArrayList<>();
        try {
            for (int p = 0; p < s.n; p++) {
                cut.add(shareSum(g, p).divide(fact(s.n)));
            }
        } catch (Beyond e) {
            return -6;
        }
        for (int p = 0; p < s.n; p++) {
            if (set(row, i < 0 ? -1 : i > 100 ? 100 : i + p, cut.get(p).longValueExact()) != 1) {
                return -13;
            }
        }
        return s.n;
    }

    public int image() {
        kept = new State(s);
        return s.n;
    }

    public int undo() {
        if (kept == null) {
            return -3;
        }
        s = new State(kept);
        return s.n;
    }
}
