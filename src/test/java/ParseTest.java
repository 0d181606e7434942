/** Promises 7 and 8: parse, profiles. */
public final class ParseTest {
    private static final Check check = new Check();

    public static void main(String[] args) {
        sizes();
        head();
        signatures();
        places();
        overlaps();
        types();
        lengths();
        ways();
        order();
        ignoredBytes();
        full();
        check.end();
    }

    /** Parses the bytes in an object of their own; each change is a place and a byte. */
    private static int parsed(int[] bytes, int... changes) {
        ColourLinker x = new ColourLinker();
        int[] changed = bytes.clone();
        for (int i = 0; i < changes.length; i += 2) {
            changed[changes[i]] = changes[i + 1];
        }
        Draft.load(x, changed);
        int answer = x.parse();
        check.due("the buffer after parse", true, java.util.Arrays.equals(changed, Draft.bufferOf(x)));
        check.due("profiles after parse", answer == 0 ? 1 : 0, x.profiles());
        return answer;
    }

    private static int[] gray() {
        return Draft.gray(0).bytes();
    }

    private static int[] shaped() {
        return Draft.shaped().bytes();
    }

    private static void sizes() {
        check.due("16 bytes", 0, parsed(gray()));
        check.due("SIZE too small", -1000, parsed(gray(), 1, 12));
        check.due("SIZE too great", -1000, parsed(gray(), 0, 1));
        check.due("8 bytes", -1000, parsed(new int[] {0, 8, 2, 1, 0, 0, 1, 0}));
        check.due("11 bytes", -1000, parsed(new int[] {0, 11, 2, 1, 0, 0, 1, 0, 0, 0, 0}));
        check.due("no multiple of 4", -1000, parsed(java.util.Arrays.copyOf(gray(), 18), 1, 18));
        check.due("12 bytes", -4009, parsed(new int[] {0, 12, 2, 1, 0, 0, 1, 0, 1, 12, 2, 0}));
        int[] whole = java.util.Arrays.copyOf(gray(), 256);
        check.due("256 bytes", 0, parsed(whole, 0, 1, 1, 0));
        check.due("256 bytes with another SIZE", -1000, parsed(whole, 0, 0, 1, 252));
    }

    private static void head() {
        int[][] wrong = {{2, 0}, {2, 3}, {3, 0}, {3, 2}, {3, 4}, {4, 2}, {5, 1}, {6, 0}, {6, 3}, {6, 13}, {7, 255}};
        for (int[] w : wrong) {
            check.due("byte " + w[0] + " is " + w[1], -2000 - w[0], parsed(gray(), w));
        }
        check.due("the first of two wrong bytes", -2003, parsed(gray(), 3, 2, 5, 1));
        check.due("CLASS 1", 0, parsed(gray(), 2, 1));
        check.due("SPACE LAB", 0, parsed(gray(), 4, 1));
        check.due("T of 13 in 64 bytes", -2006, parsed(java.util.Arrays.copyOf(gray(), 64), 1, 64, 6, 13));
        Draft twelve = new Draft(2, 3, 0).entry(6, Draft.still()).entry(1, 1, 0).entry(5, Draft.unit());
        twelve.shared(2, 1).shared(3, 1).shared(4, 1).shared(7, 6).shared(8, 6).shared(9, 6).shared(10, 6).shared(11, 6);
        check.due("T of 12", 0, parsed(twelve.white(1, 2, 3).bytes()));
        check.due("T of two that just fit", -4009, parsed(gray(), 6, 2));
    }

    private static void signatures() {
        check.due("signature 0", -3008, parsed(gray(), 8, 0));
        check.due("signature 13", -3008, parsed(gray(), 8, 13));
        check.due("a signature again", -3012, parsed(shaped(), 12, 2));
        check.due("a signature again, later", -3020, parsed(shaped(), 20, 3));
    }

    private static void places() {
        check.due("OFFSET no multiple of 4", -4009, parsed(gray(), 9, 14));
        check.due("OFFSET in the entries", -4009, parsed(gray(), 9, 8));
        check.due("LENGTH 1", -4009, parsed(gray(), 10, 1));
        check.due("LENGTH 0", -4009, parsed(gray(), 10, 0));
        check.due("data end behind SIZE", -4009, parsed(gray(), 10, 5));
        check.due("data end at SIZE", -8013, parsed(gray(), 10, 4));
        check.due("the entry's last byte", -5011, parsed(gray(), 11, 7));
        check.due("rule 4 before rule 5", -4009, parsed(gray(), 9, 14, 11, 7));
    }

    private static void overlaps() {
        int[] b = new Draft(2, 1, 0).entry(1, Draft.samples(1, 2, 3)).entry(2, Draft.samples(4, 5, 6)).bytes();
        check.due("data apart", 0, parsed(b));
        check.due("the same data", 0, parsed(b, 13, b[9]));
        check.due("the same OFFSET, another LENGTH", -6013, parsed(b, 13, b[9], 14, 6));
        check.due("data that overlap by their ends", -6013, parsed(b, 13, b[9] + 4));
        check.due("later data that reach into earlier ones", -6013, parsed(b, 9, b[13], 13, b[9], 14, 10));
        check.due("later data that end where earlier ones begin", 0, parsed(b, 9, b[13], 13, b[9]));
        check.due("rule 5 before rule 6", -5015, parsed(b, 13, b[9] + 4, 15, 1));
    }

    private static void types() {
        int[][] forSignature = {{1, 2}, {1, 2}, {1, 2}, {1, 2}, {3}, {4}, {4}, {4}, {4}, {4}, {4}, {5}};
        int[][] data = {Draft.samples(), Draft.power(1, 0, 0), Draft.unit(), Draft.still(), Draft.words(5, 0, 1, 2, 3)};
        for (int s = 2; s <= 12; s++) {
            for (int type = 0; type <= 6; type++) {
                int[] element = type >= 1 && type <= 5 ? data[type - 1].clone() : new int[] {type, 0};
                int[] b = new Draft(2, 1, 0).entry(1, 1, 0).entry(s, element).bytes();
                boolean right = false;
                for (int t : forSignature[s - 1]) {
                    right = right || t == type;
                }
                check.due("type " + type + " for signature " + s, right ? 0 : -7000 - b[13], parsed(b));
            }
        }
        check.due("type 3 for GRAY", -7012, parsed(gray(), 12, 3));
        check.due("rule 7 before rule 8", -7012, parsed(gray(), 12, 3, 13, 9));
    }

    private static int element(int signature, int... bytes) {
        int[] b = new Draft(2, 1, 0).entry(1, 1, 0).entry(signature, bytes).bytes();
        int answer = parsed(b);
        return answer == -8000 - b[13] - 1 ? -8 : answer;
    }

    private static void lengths() {
        for (int n = 0; n <= 25; n++) {
            check.due("samples of " + n, n == 1 || n == 25 ? -8 : 0, element(2, Draft.samples(new int[n])));
            check.due("samples of " + n + " and a byte", -8, element(2, java.util.Arrays.copyOf(Draft.samples(new int[n]), 3 + 2 * n)));
        }
        for (int g = 0; g <= 5; g++) {
            check.due("power " + g, g >= 1 && g <= 4 ? 0 : -8, element(3, Draft.power(g, 1, 1)));
        }
        check.due("a long power", -8, element(3, Draft.words(2, 1, 0, 0, 0)));
        check.due("a short power", -8, element(3, Draft.words(2, 1, 0)));
        check.due("a matrix with byte 1", -8, element(5, Draft.words(3, 1, 0, 0, 0, 0, 0, 0, 0, 0, 0)));
        check.due("a short matrix", -8, element(5, Draft.words(3, 0, 0, 0, 0, 0, 0, 0, 0, 0)));
        check.due("a grid of 3", 0, element(6, Draft.flat(3, 0, 0, 0)));
        check.due("a grid of 1", -8, element(6, Draft.flat(1, 0, 0, 0)));
        check.due("a grid of 4", -8, element(6, Draft.flat(4, 0, 0, 0)));
        check.due("a short grid", -8, element(6, java.util.Arrays.copyOf(Draft.still(), 25)));
        check.due("a point with byte 1", -8, element(12, Draft.words(5, 1, 0, 0, 0)));
        check.due("a long point", -8, element(12, Draft.words(5, 0, 0, 0, 0, 0)));
    }

    private static void ways() {
        check.due("one channel without GRAY", -9003, parsed(new Draft(2, 1, 0).colours(1, 0).bytes()));
        check.due("one channel with a grid alone", -9003, parsed(new Draft(2, 1, 0).entry(6, Draft.still()).bytes()));
        check.due("three channels with a grid", 0, parsed(new Draft(2, 3, 1).entry(6, Draft.still()).bytes()));
        check.due("three channels with FORTH1 alone", -9003, parsed(new Draft(2, 3, 1).entry(7, Draft.still()).bytes()));
        check.due("three channels with GRAY", -9003, parsed(new Draft(2, 3, 0).entry(1, 1, 0).bytes()));
        check.due("curves and matrix in XYZ", 0, parsed(shaped()));
        check.due("curves and matrix in LAB", -9003, parsed(shaped(), 4, 1));
        for (int s = 2; s <= 5; s++) {
            check.due("without signature " + s, s == 5 ? -7000 - shaped()[21] : -9003, parsed(shaped(), 8 + 4 * (s - 2), 1));
        }
        check.due("curves without a matrix", -9003, parsed(new Draft(2, 3, 0).colours(1, 0).bytes()));
    }

    private static void order() {
        check.due("rule 1 before rule 2", -1000, parsed(gray(), 1, 12, 2, 9));
        check.due("rule 2 before rule 3", -2007, parsed(gray(), 7, 1, 8, 0));
        int[] b = new Draft(2, 1, 0).entry(1, 1, 1).entry(13, 9, 9).bytes();
        check.due("all rules of an entry before the next one", -8000 - b[9] - 1, parsed(b));
        check.due("rule 8 before rule 9", -8013, parsed(gray(), 8, 2, 13, 1));
    }

    private static void ignoredBytes() {
        int[] b = java.util.Arrays.copyOf(gray(), 20);
        check.due("bytes outside of all", 0, parsed(b, 1, 20, 14, 9, 15, 9, 16, 9, 19, 9));
    }

    private static void full() {
        ColourLinker x = new ColourLinker();
        Draft.load(x, gray());
        for (int i = 0; i < 6; i++) {
            check.due("profile " + i, i, x.parse());
            check.due("profiles", i + 1, x.profiles());
        }
        check.due("a seventh profile", -8, x.parse());
        x.clear();
        check.due("an empty buffer with six profiles", -8, x.parse());
        check.due("profiles at last", 6, x.profiles());
    }
}
