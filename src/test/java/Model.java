import java.math.BigInteger;
import java.util.ArrayList;
import java.util.Arrays;
import java.util.HashMap;
import java.util.List;
import java.util.Map;
import java.util.TreeMap;

/**
 * The document once more, written as plainly and slowly as can be, with numbers of any size: exact
 * quotients, inverses by trying all levels, matrices gone back through by elimination.
 */
final class Model {
    private static final long[] D = {31595, 32768, 27030};

    private interface Step {
        long[] apply(long[] v);
    }

    private record Part(int kind, Step step) {
    }

    private static final class Prof {
        int cls;
        int channels;
        int space;
        int elements;
        final TreeMap<Integer, int[]> data = new TreeMap<>();
        final Map<Integer, int[]> tables = new HashMap<>();
    }

    private record Chain(String key, Prof first, Prof last, List<Part> parts) {
    }

    private final List<Integer> buffer = new ArrayList<>();
    private final List<Prof> profiles = new ArrayList<>();
    private final List<Chain> chains = new ArrayList<>();
    private final Map<Integer, String> latest = new HashMap<>();
    private int work;

    // ---- numbers

    private static BigInteger big(long v) {
        return BigInteger.valueOf(v);
    }

    /** N: the floor of (2 * num + den) / (2 * den). */
    private static BigInteger n(BigInteger num, BigInteger den) {
        if (den.signum() < 0) {
            return n(num.negate(), den.negate());
        }
        BigInteger[] qr = num.shiftLeft(1).add(den).divideAndRemainder(den.shiftLeft(1));
        return qr[1].signum() < 0 ? qr[0].subtract(BigInteger.ONE) : qr[0];
    }

    private static long n(long den, long... factors) {
        BigInteger num = BigInteger.ONE;
        for (long f : factors) {
            num = num.multiply(big(f));
        }
        return n(num, big(den)).longValueExact();
    }

    private static long clip(long v) {
        return v < 0 ? 0 : v > 65535 ? 65535 : v;
    }

    private static long clip(BigInteger v) {
        return v.signum() < 0 ? 0 : v.compareTo(big(65535)) > 0 ? 65535 : v.longValueExact();
    }

    private static boolean level(int v) {
        return v >= 0 && v <= 65535;
    }

    private static long word(int[] data, int j) {
        return data[j] * 256L + data[j + 1];
    }

    private static long signed(int[] data, int j) {
        long w = word(data, j);
        return w >= 32768 ? w - 65536 : w;
    }

    // ---- the buffer

    boolean add(int w, int n) {
        if (n < 1 || n > 4 || buffer.size() + n > 256) {
            return false;
        }
        for (int i = n - 1; i >= 0; i--) {
            buffer.add((w >> 8 * i) & 0xFF);
        }
        return true;
    }

    boolean set(int p, int b) {
        if (p < 0 || p >= buffer.size() || b < 0 || b > 255) {
            return false;
        }
        buffer.set(p, b);
        return true;
    }

    void clear() {
        buffer.clear();
    }

    int size() {
        return buffer.size();
    }

    int at(int p) {
        return p < 0 || p >= buffer.size() ? -1 : buffer.get(p);
    }

    // ---- profiles

    private static boolean head(int[] b, int p) {
        return switch (p) {
            case 2 -> b[2] == 1 || b[2] == 2;
            case 3 -> b[3] == 1 || b[3] == 3;
            case 4 -> b[4] == 0 || b[4] == 1;
            case 6 -> b[6] >= 1 && b[6] <= 12 && 8 + 4 * b[6] <= b.length;
            default -> b[p] == 0;
        };
    }

    private static boolean typed(int s, int type) {
        return s <= 4 ? type == 1 || type == 2 : s == 5 ? type == 3 : s <= 11 ? type == 4 : type == 5;
    }

    private static boolean measured(int[] data) {
        int b = data[1];
        int l = data.length;
        return switch (data[0]) {
            case 1 -> (b == 0 || b >= 2 && b <= 24) && l == 2 + 2 * b;
            case 2 -> b >= 1 && b <= 4 && l == 6;
            case 3 -> b == 0 && l == 20;
            case 4 -> (b == 2 && l == 26) || (b == 3 && l == 83);
            default -> b == 0 && l == 8;
        };
    }

    int parse() {
        if (profiles.size() == 6) {
            return -8;
        }
        int[] b = buffer.stream().mapToInt(i -> i).toArray();
        if (b.length < 12 || b.length % 4 != 0 || word(b, 0) != b.length) {
            return -1000;
        }
        for (int p = 2; p <= 7; p++) {
            if (!head(b, p)) {
                return -(2000 + p);
            }
        }
        Prof prof = new Prof();
        prof.cls = b[2];
        prof.channels = b[3];
        prof.space = b[4];
        int[] owner = new int[256];
        Map<String, Integer> elements = new HashMap<>();
        for (int k = 0; k < b[6]; k++) {
            int t = 8 + 4 * k;
            int o = b[t + 1];
            int l = b[t + 2];
            if (b[t] < 1 || b[t] > 12 || prof.data.containsKey(b[t])) {
                return -(3000 + t);
            }
            if (o % 4 != 0 || o < 8 + 4 * b[6] || l < 2 || o + l > b.length) {
                return -(4000 + t + 1);
            }
            if (b[t + 3] != 0) {
                return -(5000 + t + 3);
            }
            if (!elements.containsKey(o + "/" + l)) {
                for (int i = o; i < o + l; i++) {
                    if (owner[i] != 0) {
                        return -(6000 + t + 1);
                    }
                    owner[i] = 1;
                }
            }
            elements.put(o + "/" + l, k);
            if (!typed(b[t], b[o])) {
                return -(7000 + o);
            }
            int[] data = Arrays.copyOfRange(b, o, o + l);
            if (!measured(data)) {
                return -(8000 + o + 1);
            }
            prof.data.put(b[t], data);
        }
        if (!(prof.channels == 1 ? prof.data.containsKey(1) : prof.data.containsKey(6) || shaped(prof))) {
            return -9003;
        }
        prof.elements = elements.size();
        profiles.add(prof);
        return profiles.size() - 1;
    }

    private static boolean shaped(Prof p) {
        return p.space == 0 && p.data.keySet().containsAll(List.of(2, 3, 4, 5));
    }

    int profiles() {
        return profiles.size();
    }

    private Prof prof(int p) {
        return p < 0 || p >= profiles.size() ? null : profiles.get(p);
    }

    int elements(int p) {
        return prof(p) == null ? -1 : prof(p).elements;
    }

    boolean same(int p, int q) {
        Prof a = prof(p);
        Prof b = prof(q);
        if (a == null || b == null || a.cls != b.cls || a.channels != b.channels || a.space != b.space
            || !a.data.keySet().equals(b.data.keySet())) {
            return false;
        }
        return a.data.keySet().stream().allMatch(s -> Arrays.equals(a.data.get(s), b.data.get(s)));
    }

    int write(int p) {
        Prof a = prof(p);
        if (a == null) {
            return -1;
        }
        List<Integer> entries = new ArrayList<>();
        List<Integer> bytes = new ArrayList<>();
        Map<String, Integer> written = new HashMap<>();
        int begin = 8 + 4 * a.data.size();
        for (Map.Entry<Integer, int[]> e : a.data.entrySet()) {
            String text = Arrays.toString(e.getValue());
            if (!written.containsKey(text)) {
                written.put(text, begin + bytes.size());
                for (int b : e.getValue()) {
                    bytes.add(b);
                }
                while (bytes.size() % 4 != 0) {
                    bytes.add(0);
                }
            }
            entries.addAll(List.of(e.getKey(), written.get(text), e.getValue().length, 0));
        }
        int size = begin + bytes.size();
        buffer.clear();
        buffer.addAll(List.of(size / 256, size % 256, a.cls, a.channels, a.space, 0, a.data.size(), 0));
        buffer.addAll(entries);
        buffer.addAll(bytes);
        return size;
    }

    // ---- curves

    private static long value(int[] data, long x) {
        if (data[0] == 2) {
            if (x < word(data, 4)) {
                return clip(n(256, word(data, 2), x));
            }
            long p = x;
            for (int k = 1; k < data[1]; k++) {
                p = n(65535, p, x);
            }
            return p;
        }
        if (data[1] == 0) {
            return x;
        }
        long q = x * (data[1] - 1);
        int i = (int) Math.min(data[1] - 2, q / 65535);
        long f = q - 65535L * i;
        long e = word(data, 2 + 2 * i);
        return e + n(65535, word(data, 4 + 2 * i) - e, f);
    }

    private static boolean rising(int[] data) {
        if (data[0] == 2) {
            long d = word(data, 4);
            return d == 0 || clip(n(256, word(data, 2), d - 1)) <= value(data, d);
        }
        for (int i = 1; i < data[1]; i++) {
            if (word(data, 2 + 2 * i) <= word(data, 2 * i)) {
                return false;
            }
        }
        return true;
    }

    /** By a table of all values, kept with the profile as it takes long to make. */
    private static long inverse(Prof p, int s, long y) {
        int[] table = p.tables.computeIfAbsent(s, k -> {
            int[] all = new int[65536];
            for (int x = 0; x < 65536; x++) {
                all[x] = (int) value(p.data.get(s), x);
            }
            return all;
        });
        for (int x = 0; x < 65536; x++) {
            if (table[x] >= y) {
                return x;
            }
        }
        return 65535;
    }

    int curve(int p, int s, int x, boolean inverse) {
        Prof a = prof(p);
        if (a == null || s < 1 || s > 4 || !a.data.containsKey(s) || !level(x)) {
            return -1;
        }
        if (!inverse) {
            return (int) value(a.data.get(s), x);
        }
        return rising(a.data.get(s)) ? (int) inverse(a, s, x) : -1;
    }

    // ---- pieces

    private static int[] curveSignatures(Prof p) {
        return p.channels == 1 ? new int[] {1} : new int[] {2, 3, 4};
    }

    private static boolean straight(Prof p) {
        return Arrays.stream(curveSignatures(p)).allMatch(s -> Arrays.equals(p.data.get(s), new int[] {1, 0}));
    }

    private static Part curves(Prof p, boolean back) {
        return new Part(back ? 11 : 1, v -> {
            long[] w = v.clone();
            int[] s = curveSignatures(p);
            for (int i = 0; i < s.length; i++) {
                w[i] = back ? inverse(p, s[i], v[i]) : value(p.data.get(s[i]), v[i]);
            }
            return w;
        });
    }

    private static BigInteger[][] matrix(Prof p) {
        BigInteger[][] m = new BigInteger[3][3];
        for (int i = 0; i < 9; i++) {
            m[i / 3][i % 3] = big(signed(p.data.get(5), 2 + 2 * i));
        }
        return m;
    }

    private static boolean unit(Prof p) {
        return Arrays.equals(p.data.get(5), Draft.unit());
    }

    private static Part matrixForth(Prof p) {
        BigInteger[][] m = matrix(p);
        return new Part(2, v -> {
            long[] w = new long[3];
            for (int i = 0; i < 3; i++) {
                BigInteger sum = BigInteger.ZERO;
                for (int j = 0; j < 3; j++) {
                    sum = sum.add(m[i][j].multiply(big(v[j])));
                }
                w[i] = clip(n(sum, big(4096)));
            }
            return w;
        });
    }

    /** By elimination without fractions: each row is multiplied before it is lessened. */
    private static Part matrixBack(Prof p) {
        return new Part(10, v -> {
            BigInteger[][] m = matrix(p);
            BigInteger[] right = {big(4096 * v[0]), big(4096 * v[1]), big(4096 * v[2])};
            for (int c = 0; c < 3; c++) {
                int pivot = c;
                while (m[pivot][c].signum() == 0) {
                    pivot++;
                }
                BigInteger[] row = m[c];
                m[c] = m[pivot];
                m[pivot] = row;
                BigInteger r = right[c];
                right[c] = right[pivot];
                right[pivot] = r;
                for (int i = 0; i < 3; i++) {
                    if (i != c) {
                        BigInteger f = m[i][c];
                        for (int j = 0; j < 3; j++) {
                            m[i][j] = m[i][j].multiply(m[c][c]).subtract(f.multiply(m[c][j]));
                        }
                        right[i] = right[i].multiply(m[c][c]).subtract(f.multiply(right[c]));
                    }
                }
            }
            return new long[] {clip(n(right[0], m[0][0])), clip(n(right[1], m[1][1])), clip(n(right[2], m[2][2]))};
        });
    }

    private static BigInteger determinant(Prof p) {
        BigInteger[][] m = matrix(p);
        BigInteger sum = BigInteger.ZERO;
        int[][] orders = {{0, 1, 2}, {1, 2, 0}, {2, 0, 1}, {0, 2, 1}, {2, 1, 0}, {1, 0, 2}};
        for (int k = 0; k < 6; k++) {
            BigInteger product = m[0][orders[k][0]].multiply(m[1][orders[k][1]]).multiply(m[2][orders[k][2]]);
            sum = k < 3 ? sum.add(product) : sum.subtract(product);
        }
        return sum;
    }

    private static Part grid(int[] data) {
        int g = data[1];
        return new Part(3, v -> {
            int[] cell = new int[3];
            long[] rest = new long[3];
            for (int a = 0; a < 3; a++) {
                long q = v[a] * (g - 1);
                cell[a] = (int) Math.min(g - 2, q / 65535);
                rest[a] = q - 65535L * cell[a];
            }
            List<Integer> axes = new ArrayList<>(List.of(0, 1, 2));
            axes.sort((a, b) -> Long.compare(rest[b], rest[a]));
            long[] w = new long[3];
            for (int c = 0; c < 3; c++) {
                int[] node = cell.clone();
                BigInteger sum = big(65535L * node(data, node, c));
                for (int a : axes) {
                    long start = node(data, node, c);
                    node[a]++;
                    sum = sum.add(big(rest[a]).multiply(big(node(data, node, c) - start)));
                }
                w[c] = n(sum, big(65535)).longValueExact();
            }
            return w;
        });
    }

    private static long node(int[] data, int[] n, int c) {
        return 257L * data[2 + 3 * ((n[0] * data[1] + n[1]) * data[1] + n[2]) + c];
    }

    private static long f(long t, long w) {
        long u = n(w, 32768, t);
        if (u <= 290) {
            return n(216, 841, u) + 2260;
        }
        BigInteger limit = big(134217728).multiply(big(u));
        long r = (long) Math.cbrt(limit.doubleValue()) + 2;
        while (big(r).pow(3).compareTo(limit) > 0) {
            r--;
        }
        return r;
    }

    private static final Part TO_LAB = new Part(5, v -> {
        long x = f(v[0], 31595);
        long y = f(v[1], 32768);
        long z = f(v[2], 27030);
        return new long[] {clip(n(1638400, 116 * y - 262144, 65535)), clip(32896 + n(16384, 128500, x - y)),
            clip(32896 + n(16384, 51400, y - z))};
    });

    private static long g(long f) {
        return f > 3389 ? n(134217728, f, f, f) : n(841, f - 2260, 216);
    }

    private static final Part TO_XYZ = new Part(6, v -> {
        long y = n(7602060, 100 * v[0] + 1048560, 16384);
        long x = y + n(128500, v[1] - 32896, 16384);
        long z = y - n(51400, v[2] - 32896, 16384);
        return new long[] {clip(n(32768, 31595, g(x))), clip(g(y)), clip(n(32768, 27030, g(z)))};
    });

    private static Part spread(int space) {
        return new Part(4, v -> space == 1 ? new long[] {v[0], 32896, 32896}
            : new long[] {n(65535, D[0], v[0]), n(65535, D[1], v[0]), n(65535, D[2], v[0])});
    }

    private static Part gather(int space) {
        return new Part(9, v -> new long[] {space == 1 ? v[0] : clip(n(32768, 65535, v[1])), 0, 0});
    }

    private static Part scale(long[] a, long[] b) {
        return new Part(7, v -> new long[] {clip(n(b[0], v[0], a[0])), clip(n(b[1], v[1], a[1])), clip(n(b[2], v[2], a[2]))});
    }

    private static Part black(long a, long b) {
        return new Part(8, v -> {
            long[] w = new long[3];
            for (int i = 0; i < 3; i++) {
                w[i] = clip(D[i] - n(32768 - a, D[i] - v[i], 32768 - b));
            }
            return w;
        });
    }

    private static long[] run(List<Part> parts, int k, long[] v) {
        for (Part p : parts.subList(0, k)) {
            v = p.step.apply(v);
            for (long level : v) {
                if (level < 0 || level > 65535) {
                    throw new IllegalStateException("piece " + p.kind + " answers " + Arrays.toString(v));
                }
            }
        }
        return v;
    }

    // ---- ways and passages

    private static int[] gridOf(Prof p, int base, int intent) {
        int j = intent == 3 ? 1 : intent;
        return p.data.getOrDefault(base + j, p.data.get(base));
    }

    private static List<Part> forth(Prof p, int intent) {
        List<Part> way = new ArrayList<>();
        if (p.channels == 3 && gridOf(p, 6, intent) != null) {
            way.add(grid(gridOf(p, 6, intent)));
            return way;
        }
        if (!straight(p)) {
            way.add(curves(p, false));
        }
        if (p.channels == 1) {
            way.add(spread(p.space));
        } else if (!unit(p)) {
            way.add(matrixForth(p));
        }
        return way;
    }

    private static boolean bySteps(Prof p, int intent) {
        return p.channels == 3 && gridOf(p, 9, intent) == null && shaped(p);
    }

    private static List<Part> back(Prof p, int intent) {
        List<Part> way = new ArrayList<>();
        if (p.channels == 3 && gridOf(p, 9, intent) != null) {
            way.add(grid(gridOf(p, 9, intent)));
            return way;
        }
        if (p.channels == 1) {
            way.add(gather(p.space));
        } else if (!shaped(p)) {
            return null;
        } else if (!unit(p)) {
            way.add(matrixBack(p));
        }
        if (!straight(p)) {
            way.add(curves(p, true));
        }
        return way;
    }

    private static long blackLevel(Prof p, int intent) {
        List<Part> way = forth(p, intent);
        if (p.space == 1) {
            way.add(TO_XYZ);
        }
        return run(way, way.size(), new long[3])[1];
    }

    private static long[] white(Prof p) {
        int[] d = p.data.get(12);
        return d == null ? D : new long[] {word(d, 2), word(d, 4), word(d, 6)};
    }

    private static int refused(Prof a, Prof b, int intent, boolean asked) {
        if (intent < 0 || intent > 3) {
            return -2;
        }
        if (b.cls == 1) {
            return -3;
        }
        if (back(b, intent) == null) {
            return -4;
        }
        if (bySteps(b, intent) && determinant(b).abs().compareTo(big(16777216)) < 0) {
            return -5;
        }
        if ((b.channels == 1 || bySteps(b, intent))
            && !Arrays.stream(curveSignatures(b)).allMatch(s -> rising(b.data.get(s)))) {
            return -6;
        }
        if (intent == 3 && !Arrays.equals(white(a), white(b)) && Arrays.stream(white(b)).anyMatch(w -> w == 0)) {
            return -7;
        }
        return asked && (blackLevel(a, intent) >= 32768 || blackLevel(b, intent) >= 32768) ? -7 : 0;
    }

    private static List<Part> passage(Prof a, Prof b, int intent, boolean asked) {
        List<Part> parts = new ArrayList<>(forth(a, intent));
        int space = a.space;
        Part s = null;
        if (intent == 3 && !Arrays.equals(white(a), white(b))) {
            s = scale(white(a), white(b));
        } else if (asked && blackLevel(a, intent) != blackLevel(b, intent)) {
            s = black(blackLevel(a, intent), blackLevel(b, intent));
        }
        if (s != null) {
            if (space == 1) {
                parts.add(TO_XYZ);
            }
            parts.add(s);
            space = 0;
        }
        if (space != b.space) {
            parts.add(space == 0 ? TO_LAB : TO_XYZ);
        }
        parts.addAll(back(b, intent));
        return parts;
    }

    int link(int from, int to, int intent, boolean black) {
        if (prof(from) == null || prof(to) == null) {
            return -1;
        }
        return join("link " + from, List.of(), prof(from), prof(from), to, intent, black && intent != 3);
    }

    int extend(int l, int to, int intent, boolean black) {
        if (l < 0 || l >= chains.size() || prof(to) == null) {
            return -1;
        }
        Chain c = chains.get(l);
        return join("extend " + l, c.parts, c.first, c.last, to, intent, black && intent != 3);
    }

    private int join(String kind, List<Part> before, Prof first, Prof a, int to, int intent, boolean asked) {
        int refused = refused(a, prof(to), intent, asked);
        if (refused != 0) {
            return refused;
        }
        String key = kind + " " + to + " " + intent + " " + asked;
        for (int i = 0; i < chains.size(); i++) {
            if (chains.get(i).key.equals(key)) {
                return i;
            }
        }
        List<Part> parts = new ArrayList<>(before);
        parts.addAll(passage(a, prof(to), intent, asked));
        if (parts.size() > 24) {
            return -9;
        }
        if (chains.size() == 16) {
            return -8;
        }
        chains.add(new Chain(key, first, prof(to), parts));
        return chains.size() - 1;
    }

    int links() {
        return chains.size();
    }

    int pieces(int l) {
        return l < 0 || l >= chains.size() ? -1 : chains.get(l).parts.size();
    }

    int piece(int l, int k) {
        return k < 0 || k >= pieces(l) ? -1 : chains.get(l).parts.get(k).kind;
    }

    // ---- colours

    long convert(int l, int a, int b, int c) {
        if (pieces(l) < 0) {
            return -1;
        }
        long answer = after(l, pieces(l), a, b, c);
        if (answer != -1) {
            String colour = chains.get(l).first.channels == 1 ? "" + a : a + " " + b + " " + c;
            if (!colour.equals(latest.put(l, colour))) {
                work += pieces(l);
            }
        }
        return answer;
    }

    long after(int l, int k, int a, int b, int c) {
        if (pieces(l) < 0 || k < 0 || k > pieces(l)) {
            return -1;
        }
        Chain chain = chains.get(l);
        if (chain.first.channels == 1) {
            b = 0;
            c = 0;
        }
        if (!level(a) || !level(b) || !level(c)) {
            return -1;
        }
        long[] v = run(chain.parts, k, new long[] {a, b, c});
        return v[0] * 4294967296L + v[1] * 65536 + v[2];
    }

    int work() {
        return work;
    }
}
