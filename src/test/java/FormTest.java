import java.util.Arrays;

/** Promises 9 to 11: elements, same, write. */
public final class FormTest {
    private static final Check check = new Check();

    public static void main(String[] args) {
        elements();
        same();
        differences();
        write();
        writeShares();
        writeGreatest();
        missing();
        check.end();
    }

    private static void elements() {
        ColourLinker x = new ColourLinker();
        Draft.shaped().parseInto(x);
        check.due("three curves in one element", 2, x.elements(0));
        new Draft(2, 3, 0).entry(2, 1, 0).entry(3, 1, 0).shared(4, 2).entry(5, Draft.unit()).parseInto(x);
        check.due("the same bytes elsewhere", 3, x.elements(1));
        Draft.gray(1).parseInto(x);
        check.due("one entry", 1, x.elements(2));
        new Draft(2, 1, 0).entry(3, 1, 0).entry(6, Draft.still()).entry(1, 1, 0).shared(9, 6).shared(10, 6)
            .shared(2, 1).shared(4, 3).entry(12, Draft.words(5, 0, 1, 2, 3)).parseInto(x);
        check.due("four elements of eight entries", 4, x.elements(3));
    }

    private static void same() {
        ColourLinker x = new ColourLinker();
        new Draft(2, 3, 0).colours(1, 0).entry(5, Draft.unit()).parseInto(x);
        new Draft(2, 3, 0).entry(5, Draft.unit()).entry(4, 1, 0).entry(2, 1, 0).shared(3, 2).parseInto(x);
        check.due("another order, other elements", true, x.same(0, 1));
        check.due("the other way round", true, x.same(1, 0));
        check.due("with itself", true, x.same(1, 1));
        int[] padded = Arrays.copyOf(new Draft(2, 3, 0).colours(1, 0).entry(5, Draft.unit()).bytes(), 60);
        padded[1] = 60;
        padded[26] = 9;
        padded[58] = 9;
        Draft.load(x, padded);
        check.due("padded", 2, x.parse());
        check.due("with other bytes outside of all", true, x.same(0, 2));
    }

    private static void differences() {
        Draft[] drafts = {
            new Draft(2, 1, 0).entry(1, Draft.samples(1, 2)), new Draft(1, 1, 0).entry(1, Draft.samples(1, 2)),
            new Draft(2, 1, 1).entry(1, Draft.samples(1, 2)), new Draft(2, 1, 0).entry(1, Draft.samples(1, 3)),
            new Draft(2, 1, 0).entry(1, Draft.samples(1, 2, 3)),
            new Draft(2, 1, 0).entry(1, Draft.samples(1, 2)).shared(2, 1),
        };
        ColourLinker x = new ColourLinker();
        for (Draft d : drafts) {
            d.parseInto(x);
        }
        for (int p = 0; p < 6; p++) {
            for (int q = 0; q < 6; q++) {
                check.due("same(" + p + ", " + q + ")", p == q, x.same(p, q));
            }
        }
        ColourLinker y = new ColourLinker();
        new Draft(2, 1, 0).entry(1, 1, 0).shared(2, 1).entry(6, Draft.still()).parseInto(y);
        new Draft(2, 1, 0).entry(1, 1, 0).shared(3, 1).entry(6, Draft.still()).parseInto(y);
        new Draft(2, 3, 0).entry(1, 1, 0).shared(2, 1).entry(6, Draft.still()).parseInto(y);
        check.due("other signatures", false, y.same(0, 1));
        check.due("other channels", false, y.same(0, 2));
    }

    private static void dueBuffer(String what, ColourLinker x, int... want) {
        int[] got = Draft.bufferOf(x);
        check.due(what + ", its bytes " + Arrays.toString(got), true, Arrays.equals(want, got));
    }

    private static void write() {
        ColourLinker x = new ColourLinker();
        Draft.load(x, new int[] {0, 36, 2, 1, 1, 0, 2, 0, 12, 28, 8, 0, 1, 20, 6, 0, 9, 9, 9, 9,
            1, 2, 3, 4, 5, 6, 9, 9, 5, 0, 10, 20, 30, 40, 50, 60});
        check.due("parse", 0, x.parse());
        x.set(22, 77);
        check.due("write", 32, x.write(0));
        dueBuffer("write", x, 0, 32, 2, 1, 1, 0, 2, 0, 1, 16, 6, 0, 12, 24, 8, 0,
            1, 2, 3, 4, 5, 6, 0, 0, 5, 0, 10, 20, 30, 40, 50, 60);
        check.due("size after write", 32, x.size());
        check.due("parse of what was written", 1, x.parse());
        check.due("same as what was written", true, x.same(0, 1));
        for (int i = 0; i < 56; i++) {
            x.add(-1, 4);
        }
        check.due("write over a full buffer", 32, x.write(1));
        check.due("size after it", 32, x.size());
        check.due("its padding", 0, x.at(22));
    }

    private static void writeShares() {
        ColourLinker x = new ColourLinker();
        new Draft(1, 3, 0).entry(5, Draft.unit()).entry(4, 1, 0).entry(3, Draft.power(1, 0, 0))
            .entry(2, 1, 0).parseInto(x);
        check.due("elements", 4, x.elements(0));
        check.due("write", 56, x.write(0));
        dueBuffer("write", x, 0, 56, 1, 3, 0, 0, 4, 0,
            2, 24, 2, 0, 3, 28, 6, 0, 4, 24, 2, 0, 5, 36, 20, 0,
            1, 0, 0, 0, 2, 1, 0, 0, 0, 0, 0, 0,
            3, 0, 16, 0, 0, 0, 0, 0, 0, 0, 16, 0, 0, 0, 0, 0, 0, 0, 16, 0);
        check.due("parse", 1, x.parse());
        check.due("elements of the plain form", 3, x.elements(1));
        ColourLinker y = new ColourLinker();
        new Draft(2, 1, 0).entry(1, Draft.samples(257, 257)).entry(2, Draft.samples(257, 257, 257)).parseInto(y);
        check.due("data that are the beginning of others", 32, y.write(0));
        check.due("their offsets", 16 * 256 + 24, y.at(9) * 256 + y.at(13));
    }

    private static void writeGreatest() {
        ColourLinker x = new ColourLinker();
        int[] greatest = new Draft(2, 1, 0).entry(1, Draft.samples(new int[24])).entry(6, Draft.flat(3, 1, 2, 3))
            .entry(9, Draft.flat(3, 3, 2, 1)).shared(10, 9).entry(12, Draft.words(5, 0, 1, 2, 3)).bytes();
        check.due("bytes of the greatest", 256, greatest.length);
        Draft.load(x, greatest);
        check.due("parse of the greatest", 0, x.parse());
        check.due("write of the greatest", 256, x.write(0));
        dueBuffer("write of the greatest", x, greatest);
        int[] loose = Arrays.copyOf(Draft.gray(0).bytes(), 256);
        loose[0] = 1;
        loose[1] = 0;
        Draft.load(x, loose);
        check.due("parse of 256 bytes, most of no use", 1, x.parse());
        check.due("write of them", 16, x.write(1));
        check.due("their SIZE", 16, 256 * x.at(0) + x.at(1));
        new Draft(2, 1, 0).entry(1, Draft.samples(0, 0)).entry(2, Draft.power(2, 0, 0)).parseInto(x);
        check.due("data that differ in their type alone", 32, x.write(2));
    }

    private static void missing() {
        ColourLinker x = new ColourLinker();
        Draft.gray(0).parseInto(x);
        x.set(15, 200);
        int[] wrong = {1, -1, 6, Integer.MAX_VALUE, Integer.MIN_VALUE};
        for (int p : wrong) {
            check.due("elements(" + p + ")", -1, x.elements(p));
            check.due("same(0, " + p + ")", false, x.same(0, p));
            check.due("same(" + p + ", 0)", false, x.same(p, 0));
            check.due("same(" + p + ", " + p + ")", false, x.same(p, p));
            check.due("write(" + p + ")", -1, x.write(p));
        }
        check.due("the buffer after a refused write", 200, x.at(15));
    }
}
