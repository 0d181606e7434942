import java.util.Random;

/** All promises: runs of at most 512 random calls, each answer held against that of Model. */
public final class ModelTest {
    private static final int RUNS = 400;
    /** Behind write() some bytes are looked at, not all: calls are dear. */
    private static final int SEEN_BYTES = 12;
    private static final Check check = new Check();
    private static final int[] EDGES = {0, 1, 2, 255, 256, 289, 290, 291, 32767, 32768, 32769, 32896, 65534, 65535};

    private final Random random;
    private final ColourLinker x = new ColourLinker();
    private final Model model = new Model();
    private final int run;
    private int calls;
    private int[] remembered = {0, 0, 0};

    private ModelTest(int run) {
        this.run = run;
        this.random = new Random(run);
    }

    public static void main(String[] args) {
        int runs = args.length > 0 ? Integer.parseInt(args[0]) : RUNS;
        for (int run = 0; run < runs; run++) {
            new ModelTest(run).go();
        }
        check.end();
    }

    private void go() {
        int drafts = 1 + random.nextInt(6);
        for (int i = 0; i < drafts; i++) {
            keep(profile());
        }
        while (calls < 512 - 3 - 15) {
            call();
        }
        due("profiles()", model.profiles(), x.profiles());
        due("links()", model.links(), x.links());
        due("work()", model.work(), x.work());
        check.due("calls of run " + run + " that are too many", 0, Math.max(0, calls - 512));
    }

    private void due(String call, long want, long got) {
        calls++;
        check.due("run " + run + ": " + call, want, got);
    }

    private void due(String call, boolean want, boolean got) {
        due(call, want ? 1 : 0, got ? 1 : 0);
    }

    private boolean chance(int of) {
        return random.nextInt(of) == 0;
    }

    private int level() {
        return switch (random.nextInt(6)) {
            case 0 -> EDGES[random.nextInt(EDGES.length)];
            case 1 -> random.nextInt(1500);
            default -> random.nextInt(65536);
        };
    }

    // ---- profiles

    private int[] curve() {
        switch (random.nextInt(6)) {
            case 0:
            case 1:
                return Draft.samples();
            case 2:
                return Draft.power(1 + random.nextInt(4), chance(3) ? level() : random.nextInt(40), chance(2) ? 0 : level());
            case 3:
                int[] any = new int[2 + random.nextInt(5)];
                for (int i = 0; i < any.length; i++) {
                    any[i] = level();
                }
                return Draft.samples(any);
            default:
                int[] rising = new int[2 + random.nextInt(chance(5) ? 23 : 4)];
                int top = random.nextInt(400) + (chance(6) ? 40000 : 0);
                for (int i = 0; i < rising.length; i++) {
                    rising[i] = top;
                    top = Math.min(65535 - rising.length + i, top + 1 + random.nextInt(2 * 65535 / rising.length));
                }
                return Draft.samples(rising);
        }
    }

    private int[] matrix() {
        int[] m = new int[9];
        int form = random.nextInt(6);
        for (int i = 0; i < 9; i++) {
            m[i] = form == 0 ? (i % 4 == 0 ? 4096 : 0) : form == 1 ? random.nextInt(65536) - 32768
                : form == 2 ? random.nextInt(600) - 300 : (i % 4 == 0 ? 1500 : 0) + random.nextInt(900) - 200;
        }
        if (chance(10)) {
            System.arraycopy(m, 0, m, 3, 3);
        }
        return Draft.matrix(m);
    }

    private int[] grid() {
        if (chance(3)) {
            return Draft.still();
        }
        int g = chance(4) ? 3 : 2;
        int[] b = Draft.flat(g, 0, 0, 0);
        int[] dark = {0, random.nextInt(130), 255};
        int limit = 1 + random.nextInt(256);
        for (int i = 2; i < b.length; i++) {
            b[i] = chance(5) ? dark[random.nextInt(3)] : random.nextInt(limit);
        }
        return b;
    }

    private int[] data(int s) {
        return s <= 4 ? curve() : s == 5 ? matrix() : s <= 11 ? grid()
            : Draft.words(5, 0, white(), white(), white());
    }

    private int white() {
        return chance(12) ? 0 : chance(3) ? level() : 20000 + random.nextInt(15000);
    }

    private int[] profile() {
        int channels = chance(3) ? 1 : 3;
        int space = random.nextInt(2);
        boolean byGrid = channels == 3 && (space == 1 || chance(2));
        java.util.List<Integer> signatures = new java.util.ArrayList<>();
        for (int s = 1; s <= 12; s++) {
            boolean needed = channels == 1 ? s == 1 : byGrid ? s == 6 : s >= 2 && s <= 5;
            if (needed || chance(s == 9 && byGrid ? 2 : 7)) {
                signatures.add(s);
            }
        }
        java.util.Collections.shuffle(signatures, random);
        Draft d = new Draft(chance(6) ? 1 : 2, channels, space);
        java.util.Map<Integer, Integer> seen = new java.util.HashMap<>();
        java.util.Map<Integer, int[]> copies = new java.util.HashMap<>();
        for (int s : signatures) {
            int type = s <= 4 ? 1 : s <= 5 ? 3 : s <= 11 ? 4 : 5;
            if (seen.containsKey(type) && chance(3)) {
                d.shared(s, seen.get(type));
            } else {
                int[] bytes = copies.containsKey(type) && chance(4) ? copies.get(type) : data(s);
                d.entry(s, bytes);
                seen.put(type, s);
                copies.put(type, bytes);
            }
        }
        int[] bytes = d.bytes();
        return bytes.length <= 256 ? bytes : Draft.gray(space).bytes();
    }

    private void keep(int[] bytes) {
        clear();
        int i = 0;
        for (; i + 4 <= bytes.length; i += 4) {
            add(bytes[i] << 24 | bytes[i + 1] << 16 | bytes[i + 2] << 8 | bytes[i + 3], 4);
        }
        if (chance(4)) {
            due("parse()", model.parse(), x.parse());
            int changes = 1 + random.nextInt(3);
            for (int c = 0; c < changes; c++) {
                spoil();
                due("parse()", model.parse(), x.parse());
            }
        } else {
            due("parse()", model.parse(), x.parse());
        }
    }

    /** Changes a byte, most often by a little and among the first ones. */
    private void spoil() {
        int p = random.nextInt(Math.max(1, chance(3) ? model.size() : Math.min(40, model.size())));
        int old = Math.max(0, model.at(p));
        int b = switch (random.nextInt(4)) {
            case 0 -> random.nextInt(256);
            case 1 -> Math.max(0, old - 1 - random.nextInt(4));
            case 2 -> Math.min(255, old + 1 + random.nextInt(4));
            default -> random.nextInt(14);
        };
        due("set(" + p + ", " + b + ")", model.set(p, b), x.set(p, b));
    }

    // ---- calls

    private void clear() {
        model.clear();
        x.clear();
        calls++;
    }

    private void add(int w, int n) {
        due("add(" + w + ", " + n + ")", model.add(w, n), x.add(w, n));
    }

    private int profileNumber() {
        return chance(30) ? random.nextInt(9) - 2 : random.nextInt(Math.max(1, model.profiles()));
    }

    private int linkNumber() {
        return chance(30) ? random.nextInt(19) - 2 : random.nextInt(Math.max(1, model.links()));
    }

    private int intent() {
        return chance(20) ? random.nextInt(8) - 2 : random.nextInt(4);
    }

    private int argument() {
        return chance(60) ? random.nextInt() : chance(60) ? (chance(2) ? -1 : 65536) : level();
    }

    private void call() {
        switch (random.nextInt(14)) {
            case 0 -> bufferCall();
            case 1 -> formCall();
            case 2, 3 -> curveCall();
            case 4, 5 -> linkCall();
            case 6, 7 -> extendCall();
            case 8 -> piecesCall();
            case 9 -> due("work()", model.work(), x.work());
            default -> colourCall();
        }
    }

    private void bufferCall() {
        int p = random.nextInt(Math.max(1, model.size() + 2)) - 1;
        switch (random.nextInt(7)) {
            case 0 -> add(random.nextInt(), random.nextInt(7) - 1);
            case 1 -> due("at(" + p + ")", model.at(p), x.at(p));
            case 2 -> due("size()", model.size(), x.size());
            case 3 -> {
                int b = random.nextInt(260) - 2;
                due("set(" + p + ", " + b + ")", model.set(p, b), x.set(p, b));
            }
            case 4 -> due("parse()", model.parse(), x.parse());
            case 5 -> {
                if (model.profiles() < 6 && calls < 400) {
                    keep(profile());
                }
            }
            default -> {
                if (chance(10)) {
                    clear();
                }
            }
        }
    }

    private void formCall() {
        int p = profileNumber();
        int q = profileNumber();
        switch (random.nextInt(4)) {
            case 0 -> due("elements(" + p + ")", model.elements(p), x.elements(p));
            case 1 -> due("same(" + p + ", " + q + ")", model.same(p, q), x.same(p, q));
            case 2 -> {
                due("write(" + p + ")", model.write(p), x.write(p));
                due("size()", model.size(), x.size());
                int from = random.nextInt(model.size() + 1);
                for (int i = from; i < from + SEEN_BYTES; i++) {
                    due("at(" + i + ") after write(" + p + ")", model.at(i), x.at(i));
                }
                if (chance(4)) {
                    due("parse()", model.parse(), x.parse());
                }
            }
            default -> due("profiles()", model.profiles(), x.profiles());
        }
    }

    private void curveCall() {
        int p = profileNumber();
        int s = chance(10) ? random.nextInt(8) - 1 : 1 + random.nextInt(4);
        int v = argument();
        boolean inverse = chance(2);
        due("curve(" + p + ", " + s + ", " + v + ", " + inverse + ")", model.curve(p, s, v, inverse), x.curve(p, s, v, inverse));
    }

    private void linkCall() {
        int p = profileNumber();
        int q = profileNumber();
        int intent = intent();
        boolean black = chance(2);
        due("link(" + p + ", " + q + ", " + intent + ", " + black + ")",
            model.link(p, q, intent, black), x.link(p, q, intent, black));
    }

    private void extendCall() {
        int l = chance(2) ? model.links() - 1 : linkNumber();
        int q = profileNumber();
        int intent = intent();
        boolean black = chance(2);
        due("extend(" + l + ", " + q + ", " + intent + ", " + black + ")",
            model.extend(l, q, intent, black), x.extend(l, q, intent, black));
    }

    private void piecesCall() {
        int l = linkNumber();
        int k = random.nextInt(14) - 1;
        due("links()", model.links(), x.links());
        due("pieces(" + l + ")", model.pieces(l), x.pieces(l));
        due("piece(" + l + ", " + k + ")", model.piece(l, k), x.piece(l, k));
    }

    private void colourCall() {
        int l = linkNumber();
        if (!chance(4)) {
            remembered = chance(12) ? new int[] {0, 0, 0} : new int[] {argument(), argument(), argument()};
        }
        if (chance(8)) {
            remembered[1] = remembered[0];
        }
        int a = remembered[0];
        int b = remembered[1];
        int c = remembered[2];
        String colour = a + ", " + b + ", " + c + ")";
        if (chance(2)) {
            due("convert(" + l + ", " + colour, model.convert(l, a, b, c), x.convert(l, a, b, c));
        } else {
            int k = chance(3) ? random.nextInt(27) - 1 : random.nextInt(Math.max(0, model.pieces(l)) + 1);
            due("after(" + l + ", " + k + ", " + colour, model.after(l, k, a, b, c), x.after(l, k, a, b, c));
        }
    }
}
