import java.util.Arrays;

/** The boundary cases of promises 9 to 11, elements, same and write, a method for each sentence. */
public final class FormEdgeTest {
    private static final Check check = new Check();
    private static final int[] NO_PROFILES = {-1, 2, 5, 6, 7, Integer.MIN_VALUE, Integer.MAX_VALUE};

    public static void main(String[] args) {
        elementsTogether();
        elementsApart();
        elementsMissing();
        sameHead();
        sameSignatures();
        sameData();
        sameWherever();
        sameMissing();
        writeWhateverBuffer();
        writeMissing();
        writeEntriesByRisingSignature();
        writeAtMultiplesOfFour();
        writeNotAgain();
        writeAgainWhatDiffers();
        writeSize();
        writeZeroes();
        writeFull();
        check.end();
    }

    private static void dueBuffer(String what, ColourLinker x, int... want) {
        int[] got = Draft.bufferOf(x);
        check.due(what + ", its bytes " + Arrays.toString(got), true, Arrays.equals(want, got));
    }

    private static void elementsTogether() {
        check.says("Entries with the same OFFSET and LENGTH have one ELEMENT together.");
        for (int entries = 1; entries <= 4; entries++) {
            Draft d = Draft.gray(0);
            for (int s = 2; s <= entries; s++) {
                d.shared(s, 1);
            }
            check.due("one element of " + entries + " entries", 1, Draft.with(check, d).elements(0));
        }
        Draft twelve = new Draft(2, 3, 0).colours(1, 0).shared(1, 2).entry(5, Draft.unit()).entry(6, Draft.still());
        for (int s = 7; s <= 11; s++) {
            twelve.shared(s, 6);
        }
        check.due("four elements of twelve entries", 4, Draft.with(check, twelve.white(1, 2, 3)).elements(0));
        Draft mixed = new Draft(2, 1, 0).entry(2, 1, 0).entry(3, 1, 0).shared(4, 2).shared(1, 3);
        check.due("two elements of four entries, crosswise", 2, Draft.with(check, mixed).elements(0));
    }

    private static void elementsApart() {
        check.says("The number of elements of profile p (as its entries say: the same bytes elsewhere are another one)");
        for (int entries = 1; entries <= 4; entries++) {
            Draft d = Draft.gray(0);
            for (int s = 2; s <= entries; s++) {
                d.entry(s, 1, 0);
            }
            ColourLinker x = Draft.with(check, d);
            check.due("elements", entries, x.elements(0));
            x.write(0);
            x.parse();
            check.due("elements of the plain form", 1, x.elements(1));
            check.due("elements of the first one after it", entries, x.elements(0));
        }
        Draft eleven = new Draft(2, 3, 0).entry(1, 1, 0).entry(2, 1, 0).entry(3, 1, 0).entry(4, 1, 0).entry(5, Draft.unit());
        for (int s = 6; s <= 10; s++) {
            eleven.entry(s, Draft.still());
        }
        eleven.shared(11, 10).white(1, 2, 3);
        check.due("eleven elements of twelve entries", 11, Draft.with(check, eleven).elements(0));
    }

    private static void elementsMissing() {
        check.says("elements: MISSING when there is no profile p.");
        ColourLinker x = Draft.with(check, Draft.gray(0), Draft.gray(1));
        for (int p : NO_PROFILES) {
            check.due("elements(" + p + ")", -1, x.elements(p));
        }
        check.due("elements(1)", 1, x.elements(1));
    }

    private static void sameHead() {
        check.says("same: Whether profiles p and q have the same CLASS, CHANNELS and SPACE");
        int[] every = new Draft(1, 1, 0).entry(1, 1, 0).entry(6, Draft.still()).bytes();
        int[][] changes = {{2, 2}, {3, 3}, {4, 1}};
        for (int[] c : changes) {
            ColourLinker x = new ColourLinker();
            Draft.load(x, every);
            x.parse();
            x.parse();
            x.set(c[0], c[1]);
            check.due("parse", 2, x.parse());
            check.due("alike", true, x.same(0, 1));
            check.due("byte " + c[0] + " differs", false, x.same(0, 2));
            check.due("the other way round", false, x.same(2, 1));
        }
    }

    private static void sameSignatures() {
        check.says("same: .. and entries of the same signatures");
        ColourLinker x = Draft.with(check, Draft.gray(0), Draft.gray(0).shared(2, 1), Draft.gray(0).shared(3, 1),
            Draft.gray(0).entry(3, 1, 0), Draft.gray(0).shared(3, 1).shared(2, 1), Draft.gray(0).white(31595, 32768, 27030));
        for (int p = 0; p < 6; p++) {
            for (int q = 0; q < 6; q++) {
                boolean like = p == q || p == 2 && q == 3 || p == 3 && q == 2;
                check.due("same(" + p + ", " + q + ")", like, x.same(p, q));
            }
        }
    }

    private static void sameData() {
        check.says("same: .. with the same data (as many bytes, and the same ones) for each signature");
        ColourLinker x = Draft.with(check, Draft.gray(0, 0, 1), Draft.gray(0, 0, 1, 1), Draft.gray(0, 0, 2),
            Draft.gray(0, 256, 1), new Draft(2, 1, 0).entry(1, Draft.power(2, 0, 1)), Draft.gray(0, 0, 1));
        for (int p = 0; p < 6; p++) {
            for (int q = 0; q < 6; q++) {
                check.due("same(" + p + ", " + q + ")", p % 5 == q % 5, x.same(p, q));
            }
        }
        int[] one = Draft.samples(1, 2);
        int[] other = Draft.samples(3, 4);
        ColourLinker y = Draft.with(check, new Draft(2, 1, 0).entry(1, one).entry(2, other),
            new Draft(2, 1, 0).entry(1, other).entry(2, one), new Draft(2, 1, 0).entry(2, one).entry(1, other),
            new Draft(2, 1, 0).entry(1, one).shared(2, 1), new Draft(2, 1, 0).entry(1, one).entry(2, one));
        check.due("data the other way round", false, y.same(0, 1));
        check.due("entries and data in another order", true, y.same(1, 2));
        check.due("data that are the same, and others", false, y.same(0, 3));
        check.due("the same data in one element and in two", true, y.same(3, 4));
    }

    private static void sameWherever() {
        check.says("same: .. wherever the data lie and in whatever order entries are");
        int[][] curves = {Draft.samples(1, 2, 3), Draft.power(1, 2, 3), Draft.samples()};
        int[][] orders = {{0, 1, 2}, {0, 2, 1}, {1, 0, 2}, {1, 2, 0}, {2, 0, 1}, {2, 1, 0}};
        ColourLinker x = new ColourLinker();
        for (int[] order : orders) {
            Draft d = new Draft(2, 1, 0);
            for (int i : order) {
                d.entry(1 + i, curves[i]);
            }
            d.parseInto(x);
        }
        for (int p = 0; p < 6; p++) {
            check.due("order " + p, true, x.same(0, p));
            check.due("order " + p, true, x.same(p, 3));
        }
        // the same profile with its data far behind its entries, and other bytes before them
        ColourLinker y = Draft.with(check, Draft.gray(0));
        y.clear();
        int[] far = new int[256];
        Arrays.fill(far, 9);
        System.arraycopy(new int[] {1, 0, 2, 1, 0, 0, 1, 0, 1, 252, 2, 0}, 0, far, 0, 12);
        far[252] = 1;
        far[253] = 0;
        Draft.load(y, far);
        check.due("parse of the far one", 1, y.parse());
        check.due("the same, far", true, y.same(0, 1));
    }

    private static void sameMissing() {
        check.says("same: false when one of them is not there.");
        ColourLinker x = Draft.with(check, Draft.gray(0), Draft.gray(0));
        for (int p : NO_PROFILES) {
            check.due("same(0, " + p + ")", false, x.same(0, p));
            check.due("same(" + p + ", 1)", false, x.same(p, 1));
            check.due("same(" + p + ", " + p + ")", false, x.same(p, p));
        }
        check.due("same(1, 0)", true, x.same(1, 0));
        check.due("same(1, 1)", true, x.same(1, 1));
    }

    private static void writeWhateverBuffer() {
        check.says("write: The buffer (whatever it was) becomes profile p in its plain form, and its number of bytes is answered");
        int[] plain = {0, 16, 2, 1, 0, 0, 1, 0, 1, 12, 2, 0, 1, 0, 0, 0};
        for (int bytes : new int[] {0, 1, 15, 16, 17, 200}) {
            ColourLinker x = Draft.with(check, Draft.gray(0));
            x.clear();
            for (int i = 0; i < bytes; i++) {
                x.add(255, 1);
            }
            check.due("write over " + bytes + " bytes", 16, x.write(0));
            check.due("size", 16, x.size());
            dueBuffer("write over " + bytes, x, plain);
        }
        ColourLinker y = Draft.with(check, Draft.gray(0));
        for (int i = 0; i < 60; i++) {
            y.add(-1, 4);
        }
        check.due("size before", 256, y.size());
        check.due("write over a full buffer", 16, y.write(0));
        dueBuffer("write over a full buffer", y, plain);
        check.due("add behind it", true, y.add(-1, 4));
        check.due("size behind it", 20, y.size());
        check.due("write again", 16, y.write(0));
        y.set(12, 99);
        check.due("and again", 16, y.write(0));
        dueBuffer("what was set in the buffer is not in the profile", y, plain);
    }

    private static void writeMissing() {
        check.says("write: MISSING when there is no profile p.");
        ColourLinker x = Draft.with(check, Draft.gray(0), Draft.gray(1));
        x.add(0x01020304, 3);
        int[] before = Draft.bufferOf(x);
        for (int p : NO_PROFILES) {
            check.due("write(" + p + ")", -1, x.write(p));
        }
        dueBuffer("the buffer after it", x, before);
    }

    private static void writeEntriesByRisingSignature() {
        check.says("write: the first 8 bytes as said above, the entries by rising signature; then the data in the order of the entries");
        ColourLinker x = new ColourLinker();
        Draft twelve = new Draft(1, 3, 1).white(1, 2, 3).entry(11, Draft.flat(2, 1, 1, 1));
        for (int s = 10; s >= 6; s--) {
            twelve.shared(s, 11);
        }
        twelve.entry(5, Draft.unit()).entry(4, Draft.power(4, 0, 0)).entry(3, Draft.power(3, 0, 0))
            .entry(2, Draft.power(2, 0, 0)).entry(1, Draft.power(1, 0, 0));
        check.due("parse", 0, twelve.parseInto(x));
        check.due("write", 144, x.write(0));
        int[] offsets = {56, 64, 72, 80, 88, 108, 108, 108, 108, 108, 108, 136};
        int[] lengths = {6, 6, 6, 6, 20, 26, 26, 26, 26, 26, 26, 8};
        int[] head = {0, 144, 1, 3, 1, 0, 12, 0};
        for (int i = 0; i < 8; i++) {
            check.due("byte " + i, head[i], x.at(i));
        }
        for (int k = 0; k < 12; k++) {
            check.due("signature of entry " + k, k + 1, x.at(8 + 4 * k));
            check.due("OFFSET of entry " + k, offsets[k], x.at(9 + 4 * k));
            check.due("LENGTH of entry " + k, lengths[k], x.at(10 + 4 * k));
            check.due("last byte of entry " + k, 0, x.at(11 + 4 * k));
        }
        for (int k = 0; k < 4; k++) {
            check.due("type of entry " + k, 2, x.at(offsets[k]));
            check.due("g of entry " + k, k + 1, x.at(offsets[k] + 1));
        }
        check.due("parse of the plain form", 1, x.parse());
        check.due("same", true, x.same(0, 1));
    }

    private static void writeAtMultiplesOfFour() {
        check.says("write: .. each beginning at the next place that is a multiple of 4");
        // LENGTHs 2, 6, 8, 10: rests of 2, 2, 0, 2 behind multiples of 4
        ColourLinker x = Draft.with(check, new Draft(2, 1, 0).entry(4, Draft.samples(1, 2, 3, 4)).entry(3, Draft.samples(1, 2, 3))
            .entry(2, Draft.samples(1, 2)).entry(1, 1, 0));
        // 24, length 2; 28, length 6; 36, length 8; 44, length 10
        check.due("write", 56, x.write(0));
        int[] offsets = {24, 28, 36, 44};
        for (int k = 0; k < 4; k++) {
            check.due("OFFSET of entry " + k, offsets[k], x.at(9 + 4 * k));
        }
        // a grid of three has an odd LENGTH, 83
        ColourLinker y = Draft.with(check, new Draft(2, 3, 1).entry(9, Draft.still()).entry(6, Draft.flat(3, 7, 8, 9)));
        check.due("write with a grid of three", 128, y.write(0));
        check.due("OFFSET of the grid of three", 16, y.at(9));
        check.due("OFFSET behind the grid of three", 100, y.at(13));
        check.due("the last byte of the grid of three", 9, y.at(98));
        check.due("the byte between", 0, y.at(99));
    }

    private static void writeNotAgain() {
        check.says("write: .. but data with the same bytes, and as many, as those of an earlier entry are not written again: the entry has the OFFSET of that one");
        int[] a = Draft.samples(1, 2);
        int[] b = Draft.samples(3, 4);
        ColourLinker x = Draft.with(check, new Draft(2, 1, 0).entry(1, a).entry(2, b).entry(3, a).entry(4, b));
        check.due("elements", 4, x.elements(0));
        check.due("write", 24 + 16, x.write(0));
        int[] offsets = {24, 32, 24, 32};
        for (int k = 0; k < 4; k++) {
            check.due("OFFSET of entry " + k, offsets[k], x.at(9 + 4 * k));
        }
        ColourLinker y = Draft.with(check, new Draft(2, 1, 0).entry(4, a).entry(3, a).entry(2, a).entry(1, a));
        check.due("all the same", 32, y.write(0));
        dueBuffer("all the same", y, 0, 32, 2, 1, 0, 0, 4, 0, 1, 24, 6, 0, 2, 24, 6, 0, 3, 24, 6, 0, 4, 24, 6, 0,
            1, 2, 0, 1, 0, 2, 0, 0);
        ColourLinker z = Draft.with(check, new Draft(2, 3, 0).entry(6, Draft.still()).entry(9, Draft.still()).entry(11, Draft.still()));
        check.due("grids forth and back", 48, z.write(0));
        check.due("OFFSET of BACK0", 20, z.at(13));
        check.due("OFFSET of BACK2", 20, z.at(17));
        ColourLinker w = Draft.with(check, new Draft(2, 1, 0).entry(2, b).shared(1, 2));
        check.due("one element stays one", 24, w.write(0));
    }

    private static void writeAgainWhatDiffers() {
        check.says("write: .. data with the same bytes, and as many");
        int[][] pairs = {Draft.samples(257, 257), Draft.samples(257, 257, 257), Draft.samples(257, 513), Draft.samples(256, 257),
            Draft.power(2, 257, 257), Draft.samples()};
        for (int[] p : pairs) {
            for (int[] q : pairs) {
                ColourLinker x = Draft.with(check, new Draft(2, 1, 0).entry(1, p).entry(2, q));
                int first = (16 + p.length + 3) / 4 * 4;
                int second = (first + q.length + 3) / 4 * 4;
                check.due("write of " + Arrays.toString(p) + Arrays.toString(q), p == q ? first : second, x.write(0));
                check.due("OFFSET of the second", p == q ? 16 : first, x.at(13));
            }
        }
    }

    private static void writeSize() {
        check.says("write: SIZE is the end of the last data, or the next multiple of 4");
        for (int n = 0; n <= 24; n++) {
            if (n == 1) {
                continue;
            }
            ColourLinker x = Draft.with(check, Draft.gray(0, new int[n]));
            int want = 12 + 2 + 2 * n + (n % 2 == 0 ? 2 : 0);
            check.due("write of " + n + " samples", want, x.write(0));
            check.due("SIZE", want, 256 * x.at(0) + x.at(1));
            check.due("size", want, x.size());
        }
        ColourLinker y = Draft.with(check, Draft.gray(0).white(1, 2, 3));
        check.due("the last data end at a multiple of 4", 28, y.write(0));
        // the last data written are not those of the last entry
        ColourLinker z = Draft.with(check, Draft.gray(0).entry(2, Draft.samples(1, 2, 3)).shared(3, 1));
        check.due("the last entry has the first data", 32, z.write(0));
    }

    private static void writeZeroes() {
        check.says("write: bytes between and behind data are 0.");
        int[] b = new Draft(2, 1, 1).entry(1, 1, 0).entry(2, Draft.samples(65535, 65535)).entry(3, 1, 0).bytes();
        for (int i : new int[] {22, 23, 30, 31, 34, 35}) {
            check.due("a byte outside of all", 0, b[i]);
            b[i] = 255;
        }
        ColourLinker x = new ColourLinker();
        Draft.load(x, b);
        check.due("parse", 0, x.parse());
        check.due("write", 32, x.write(0));
        dueBuffer("write", x, 0, 32, 2, 1, 1, 0, 3, 0, 1, 20, 2, 0, 2, 24, 6, 0, 3, 20, 2, 0,
            1, 0, 0, 0, 1, 2, 255, 255, 255, 255, 0, 0);
    }

    private static void writeFull() {
        check.says("THE BUFFER is a list of at most 256 bytes .. write: its number of bytes is answered");
        int[] greatest = new Draft(2, 1, 0).entry(1, Draft.samples(new int[24])).entry(6, Draft.flat(3, 1, 2, 3))
            .entry(9, Draft.flat(3, 3, 2, 1)).shared(10, 9).white(1, 2, 3).bytes();
        ColourLinker x = new ColourLinker();
        Draft.load(x, greatest);
        check.due("size before", 256, x.size());
        check.due("parse", 0, x.parse());
        x.clear();
        check.due("write", 256, x.write(0));
        check.due("size", 256, x.size());
        check.due("SIZE, its high byte", 1, x.at(0));
        check.due("SIZE, its low byte", 0, x.at(1));
        check.due("add to it", false, x.add(0, 1));
        check.due("parse of it", 1, x.parse());
        check.due("same", true, x.same(0, 1));
    }
}
