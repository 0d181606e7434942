import java.util.Arrays;

/** Promises 13 to 17: link, extend, links, pieces, piece. */
public final class LinkTest {
    private static final Check check = new Check();

    public static void main(String[] args) {
        kinds();
        leftOut();
        grids();
        adjustments();
        missing();
        refusals();
        refusalsInOrder();
        singular();
        noScale();
        again();
        extended();
        extendedAgain();
        tooLong();
        full();
        check.end();
    }

    private static ColourLinker with(Draft... drafts) {
        ColourLinker x = new ColourLinker();
        for (int i = 0; i < drafts.length; i++) {
            check.due("parse of draft " + i, i, drafts[i].parseInto(x));
        }
        return x;
    }

    private static void dueKinds(String what, ColourLinker x, int l, int... want) {
        int[] got = new int[Math.max(0, x.pieces(l))];
        for (int k = 0; k < got.length; k++) {
            got[k] = x.piece(l, k);
        }
        check.due(what + ": " + Arrays.toString(got), true, l >= 0 && Arrays.equals(want, got));
        check.due(what + ", behind the last piece", -1, x.piece(l, want.length));
        check.due(what + ", piece -1", -1, x.piece(l, -1));
    }

    private static Draft bentGray(int space) {
        return new Draft(2, 1, space).entry(1, Draft.samples(0, 100, 65535));
    }

    private static Draft gridded(int space) {
        return new Draft(2, 3, space).entry(6, Draft.still()).shared(9, 6);
    }

    private static void kinds() {
        ColourLinker x = with(bentGray(0), bentGray(1), Draft.shaped(), gridded(0), gridded(1));
        dueKinds("gray XYZ to itself", x, x.link(0, 0, 0, false), 1, 4, 9, 11);
        dueKinds("gray XYZ to gray LAB", x, x.link(0, 1, 0, false), 1, 4, 5, 9, 11);
        dueKinds("gray LAB to gray XYZ", x, x.link(1, 0, 0, false), 1, 4, 6, 9, 11);
        dueKinds("shaped to itself", x, x.link(2, 2, 0, false), 1, 2, 10, 11);
        dueKinds("shaped to a grid in LAB", x, x.link(2, 4, 0, false), 1, 2, 5, 3);
        dueKinds("a grid in LAB to shaped", x, x.link(4, 2, 0, false), 3, 6, 10, 11);
        dueKinds("a grid to a grid", x, x.link(3, 3, 0, false), 3, 3);
        dueKinds("a grid in LAB to a grid in XYZ", x, x.link(4, 3, 2, false), 3, 6, 3);
        dueKinds("gray to shaped", x, x.link(0, 2, 1, false), 1, 4, 10, 11);
        check.due("links", 9, x.links());
        check.due("pieces of no link", -1, x.pieces(9));
        check.due("pieces of link -1", -1, x.pieces(-1));
        check.due("piece of no link", -1, x.piece(9, 0));
        check.due("piece of link -1", -1, x.piece(-1, 0));
        check.due("piece with a great number", -1, x.piece(0, Integer.MAX_VALUE));
    }

    private static void leftOut() {
        Draft nothing = new Draft(2, 3, 0).colours(Draft.samples()).entry(5, Draft.unit());
        Draft oneBent = new Draft(2, 3, 0).entry(2, 1, 0).shared(3, 2).entry(4, Draft.power(1, 0, 0)).entry(5, Draft.unit());
        Draft almostUnit = new Draft(2, 3, 0).colours(1, 0).entry(5, Draft.matrix(4096, 0, 0, 0, 4096, 0, 0, 1, 4096));
        Draft notFirst = new Draft(2, 3, 0).colours(1, 0).entry(5, Draft.matrix(4095, 0, 0, 0, 4096, 0, 0, 0, 4096));
        ColourLinker x = with(nothing, oneBent, almostUnit, Draft.gray(0), notFirst);
        dueKinds("nothing left", x, x.link(0, 0, 0, false));
        dueKinds("one curve is no samples", x, x.link(1, 1, 0, false), 1, 11);
        dueKinds("almost the unit", x, x.link(2, 2, 0, false), 2, 10);
        dueKinds("straight gray", x, x.link(3, 3, 0, false), 4, 9);
        dueKinds("the unit but for m(0,0)", x, x.link(4, 4, 0, false), 2, 10);
        check.due("no pieces", 0, x.pieces(0));
    }

    /** Every grid answers its own colour, so the colour tells which one was taken. */
    private static void grids() {
        Draft all = new Draft(2, 3, 0).entry(6, Draft.flat(2, 10, 0, 0)).entry(7, Draft.flat(2, 11, 0, 0))
            .entry(8, Draft.flat(2, 12, 0, 0)).entry(9, Draft.flat(2, 20, 0, 0))
            .entry(10, Draft.flat(2, 21, 0, 0)).entry(11, Draft.flat(2, 22, 0, 0));
        Draft some = new Draft(2, 3, 0).entry(6, Draft.flat(2, 10, 0, 0)).entry(8, Draft.flat(2, 12, 0, 0))
            .entry(9, Draft.flat(2, 20, 0, 0)).entry(11, Draft.flat(2, 22, 0, 0));
        Draft mixed = Draft.shaped().entry(7, Draft.flat(2, 11, 0, 0)).entry(10, Draft.flat(2, 21, 0, 0));
        Draft unused = Draft.gray(0).entry(6, Draft.flat(2, 1, 1, 1)).shared(9, 6);
        Draft lab = new Draft(2, 3, 1).colours(1, 0).entry(5, Draft.unit()).entry(6, Draft.flat(2, 1, 1, 1));
        ColourLinker x = with(all, some, mixed, unused, lab);
        int[] forthAll = {10, 11, 12, 11};
        int[] forthSome = {10, 10, 12, 10};
        for (int intent = 0; intent < 4; intent++) {
            int l = x.link(0, 0, intent, false);
            check.due("FORTH of all", Check.colour(257 * forthAll[intent], 0, 0), x.after(l, 1, 1, 2, 3));
            check.due("BACK of all", Check.colour(257 * (forthAll[intent] + 10), 0, 0), x.convert(l, 1, 2, 3));
            l = x.link(1, 1, intent, false);
            check.due("FORTH of some", Check.colour(257 * forthSome[intent], 0, 0), x.after(l, 1, 1, 2, 3));
            check.due("BACK of some", Check.colour(257 * (forthSome[intent] + 10), 0, 0), x.convert(l, 1, 2, 3));
        }
        dueKinds("no grid for intent 0", x, x.link(2, 2, 0, false), 1, 2, 10, 11);
        dueKinds("a grid for intent 1", x, x.link(2, 2, 1, false), 3, 3);
        dueKinds("no grid for intent 2", x, x.link(2, 2, 2, false), 1, 2, 10, 11);
        dueKinds("a grid for intent 3", x, x.link(2, 2, 3, false), 3, 3);
        dueKinds("one channel has no use for grids", x, x.link(3, 3, 0, false), 4, 9);
        check.due("in LAB no way back by a matrix", -4, x.link(0, 4, 0, false));
    }

    private static void adjustments() {
        Draft dim = Draft.gray(0).white(31595, 32768, 27029);
        Draft dimLab = Draft.gray(1).white(31595, 32768, 27029);
        Draft told = Draft.gray(0).white(31595, 32768, 27030);
        Draft dark = new Draft(2, 1, 0).entry(1, Draft.samples(2000, 65535));
        Draft darkLab = new Draft(2, 1, 1).entry(1, Draft.samples(9000, 65535));
        ColourLinker x = with(dim, dimLab, told, Draft.gray(0), dark, darkLab);
        dueKinds("other whites", x, x.link(0, 3, 3, false), 4, 7, 9);
        dueKinds("other whites, from LAB", x, x.link(1, 3, 3, false), 4, 6, 7, 9);
        dueKinds("other whites, from LAB to LAB", x, x.link(1, 5, 3, true), 4, 6, 7, 5, 9, 11);
        dueKinds("other whites, to LAB", x, x.link(3, 1, 3, false), 4, 7, 5, 9);
        dueKinds("the same white", x, x.link(0, 0, 3, false), 4, 9);
        dueKinds("D told and not told", x, x.link(2, 3, 3, false), 4, 9);
        dueKinds("other whites with another intent", x, x.link(0, 3, 1, true), 4, 9);
        dueKinds("other blacks", x, x.link(4, 3, 1, true), 1, 4, 8, 9);
        dueKinds("other blacks, not asked for", x, x.link(4, 3, 1, false), 1, 4, 9);
        dueKinds("other blacks, intent 3", x, x.link(4, 3, 3, true), 1, 4, 9);
        dueKinds("other blacks, from LAB", x, x.link(5, 3, 0, true), 1, 4, 6, 8, 9);
        dueKinds("other blacks, LAB to LAB", x, x.link(5, 1, 0, true), 1, 4, 6, 8, 5, 9);
        dueKinds("the same black", x, x.link(4, 4, 2, true), 1, 4, 9, 11);
        dueKinds("the same black in XYZ and LAB", x, x.link(3, 1, 2, true), 4, 5, 9);
    }

    private static void missing() {
        ColourLinker x = with(Draft.gray(0));
        int[] wrong = {1, -1, 6, Integer.MIN_VALUE, Integer.MAX_VALUE};
        for (int p : wrong) {
            check.due("link from " + p, -1, x.link(p, 0, 0, false));
            check.due("link to " + p, -1, x.link(0, p, 0, false));
            check.due("link to " + p + " with a wrong intent", -1, x.link(0, p, 9, false));
            check.due("extend of " + p, -1, x.extend(p, 0, 0, false));
        }
        check.due("links", 0, x.links());
        x.link(0, 0, 0, false);
        for (int p : wrong) {
            check.due("extend to " + p, -1, x.extend(0, p, 9, false));
        }
        check.due("links after all", 1, x.links());
    }

    private static void refusals() {
        Draft source = new Draft(1, 1, 0).entry(1, 1, 0);
        Draft noWay = new Draft(2, 3, 0).entry(6, Draft.still());
        Draft falling = new Draft(2, 1, 0).entry(1, Draft.samples(5, 4));
        Draft fallingBlue = new Draft(2, 3, 0).entry(2, 1, 0).shared(3, 2).entry(4, Draft.samples(1, 1)).entry(5, Draft.unit());
        Draft backAlone = new Draft(2, 3, 0).entry(6, Draft.still()).shared(10, 6);
        ColourLinker x = with(Draft.gray(0), source, noWay, falling, fallingBlue, backAlone);
        int[] wrongIntents = {-1, 4, Integer.MIN_VALUE, Integer.MAX_VALUE};
        for (int intent : wrongIntents) {
            check.due("intent " + intent, -2, x.link(0, 0, intent, true));
        }
        check.due("to a source alone", -3, x.link(0, 1, 0, false));
        check.due("no way back", -4, x.link(0, 2, 0, false));
        check.due("a gray curve that falls", -6, x.link(0, 3, 0, false));
        check.due("a blue curve that stays", -6, x.link(0, 4, 3, false));
        check.due("BACK1 alone, intent 0", -4, x.link(0, 5, 0, false));
        check.due("BACK1 alone, intent 2", -4, x.link(0, 5, 2, false));
        check.due("links after refusals", 0, x.links());
        check.due("from a source alone", 0, x.link(1, 0, 0, false));
        check.due("from one with no way back", 1, x.link(2, 0, 0, false));
        check.due("from a falling curve", 2, x.link(3, 0, 0, false));
        check.due("BACK1 alone, intent 1", 3, x.link(0, 5, 1, false));
        check.due("BACK1 alone, intent 3", 4, x.link(0, 5, 3, false));
        check.due("extend with a wrong intent", -2, x.extend(0, 1, 4, false));
        check.due("extend to a source alone", -3, x.extend(0, 1, 0, false));
        check.due("extend with no way back", -4, x.extend(0, 2, 0, false));
        check.due("extend with a curve that falls", -6, x.extend(0, 3, 0, false));
        check.due("links at last", 5, x.links());
    }

    private static void refusalsInOrder() {
        int[] none = Draft.matrix(new int[9]);
        int[] fall = Draft.samples(65535, 65535);
        Draft worst = new Draft(1, 3, 0).colours(fall).entry(5, none).white(0, 0, 0);
        Draft sourceNoWay = new Draft(1, 3, 0).entry(6, Draft.still());
        Draft singularToo = new Draft(2, 3, 0).colours(fall).entry(5, none).white(0, 0, 0);
        Draft fallingToo = new Draft(2, 3, 0).colours(fall).entry(5, Draft.unit()).white(0, 0, 0);
        ColourLinker x = with(worst, sourceNoWay, singularToo, fallingToo);
        check.due("NO_INTENT before ONE_WAY", -2, x.link(3, 0, 4, true));
        check.due("ONE_WAY before SINGULAR", -3, x.link(3, 0, 3, true));
        check.due("ONE_WAY before NO_WAY", -3, x.link(3, 1, 3, true));
        check.due("SINGULAR before NOT_RISING", -5, x.link(0, 2, 3, true));
        check.due("NOT_RISING before NO_SCALE", -6, x.link(1, 3, 3, true));
        check.due("NOT_RISING before NO_SCALE with black", -6, x.link(1, 3, 0, true));
    }

    private static int linkTo(int... m) {
        ColourLinker x = with(Draft.gray(0), new Draft(2, 3, 0).colours(1, 0).entry(5, Draft.matrix(m)));
        return x.link(0, 1, 0, false);
    }

    private static void singular() {
        check.due("no matrix at all", -5, linkTo(0, 0, 0, 0, 0, 0, 0, 0, 0));
        check.due("determinant 16777216", 0, linkTo(256, 0, 0, 0, 256, 0, 0, 0, 256));
        check.due("determinant 16777215", -5, linkTo(4095, 0, 0, 0, 4097, 0, 0, 0, 1));
        check.due("determinant -16777216", 0, linkTo(0, 256, 0, 256, 0, 0, 0, 0, 256));
        check.due("determinant -16777215", -5, linkTo(0, 4095, 0, 4097, 0, 0, 0, 0, 1));
        check.due("determinant by m(0,2) alone", 0, linkTo(0, 0, 256, 256, 0, 0, 0, 256, 0));
        check.due("equal rows", -5, linkTo(1, 2, 3, 1, 2, 3, 9000, 8000, -7000));
        check.due("the greatest numbers", 0, linkTo(-32768, 32767, -32768, -32768, -32768, 32767, 32767, -32768, -32768));
        Draft back = new Draft(2, 3, 0).colours(1, 0).entry(5, Draft.matrix(new int[9])).entry(9, Draft.still());
        ColourLinker x = with(Draft.gray(0), back);
        check.due("a way back by a grid asks for no matrix", 0, x.link(0, 1, 0, false));
    }

    private static void noScale() {
        Draft zero = Draft.gray(0).white(31595, 32768, 0);
        Draft zeroToo = Draft.gray(1).white(31595, 32768, 0);
        Draft light = new Draft(2, 1, 0).entry(1, Draft.samples(65534, 65535));
        Draft zeroFirst = Draft.gray(0).white(0, 32768, 27030);
        Draft white = new Draft(1, 1, 0).entry(1, Draft.samples(65535, 65535));
        ColourLinker x = with(Draft.gray(0), zero, zeroToo, light, zeroFirst, white);
        check.due("a white with 0", -7, x.link(0, 1, 3, false));
        check.due("a white with 0 first", -7, x.link(0, 4, 3, false));
        check.due("the same white with 0", 0, x.link(1, 2, 3, false));
        check.due("from a white with 0", 1, x.link(1, 0, 3, false));
        check.due("a white with 0, another intent", 2, x.link(0, 1, 0, true));
        check.due("black level 32767", 3, x.link(3, 0, 0, true));
        check.due("to black level 32767", 4, x.link(0, 3, 0, true));
        check.due("black level 32768", -7, x.link(5, 0, 0, true));
        check.due("black level 32768, not asked for", 5, x.link(5, 0, 0, false));
        check.due("black level 32768, intent 3", 6, x.link(5, 0, 3, true));
        ColourLinker y = with(new Draft(2, 3, 0).entry(6, Draft.flat(2, 0, 200, 0)).shared(9, 6), Draft.gray(0));
        check.due("to a black level over 32768", -7, y.link(1, 0, 0, true));
        check.due("from and to the same one over 32768", -7, y.link(0, 0, 0, true));
        ColourLinker z = with(Draft.gray(0).white(1, 0, 1), Draft.gray(0), Draft.shaped()
            .entry(6, Draft.flat(2, 255, 255, 255)).entry(12, Draft.words(5, 0, 1, 2, 3)));
        check.due("a white with 0 in the middle", -7, z.link(1, 0, 3, true));
        check.due("to a black level of 65535", -7, z.link(1, 2, 2, true));
        ColourLinker even = with(Draft.gray(0), new Draft(2, 3, 0)
            .entry(6, Draft.flat(2, 1, 127, 1)).entry(7, Draft.flat(2, 1, 128, 1)).shared(9, 6));
        check.due("to a black level of 127 * 257 = 32639", 0, even.link(0, 1, 0, true));
        check.due("to a black level of 128 * 257 = 32896", -7, even.link(0, 1, 1, true));
        check.due("extend is refused for it too", -7, y.extend(y.link(0, 1, 0, false), 0, 1, true));
    }

    private static void again() {
        ColourLinker x = with(Draft.gray(0), Draft.gray(1));
        check.due("link", 0, x.link(0, 1, 0, false));
        check.due("with black", 1, x.link(0, 1, 0, true));
        check.due("with another intent", 2, x.link(0, 1, 1, false));
        check.due("the other way", 3, x.link(1, 0, 0, false));
        check.due("intent 3", 4, x.link(0, 1, 3, true));
        check.due("again", 0, x.link(0, 1, 0, false));
        check.due("again with black", 1, x.link(0, 1, 0, true));
        check.due("again with another intent", 2, x.link(0, 1, 1, false));
        check.due("again the other way", 3, x.link(1, 0, 0, false));
        check.due("again with intent 3", 4, x.link(0, 1, 3, false));
        check.due("links", 5, x.links());
        Draft.gray(0).parseInto(x);
        check.due("a profile that is the same is another one", 5, x.link(2, 1, 0, false));
    }

    private static void extended() {
        ColourLinker x = with(Draft.gray(0), Draft.gray(1), Draft.shaped());
        int l = x.link(0, 1, 0, false);
        dueKinds("link", x, l, 4, 5, 9);
        int e = x.extend(l, 2, 0, false);
        dueKinds("extend", x, e, 4, 5, 9, 4, 6, 10, 11);
        dueKinds("the link stays", x, l, 4, 5, 9);
        int f = x.extend(e, 0, 0, false);
        dueKinds("extend of an extended one", x, f, 4, 5, 9, 4, 6, 10, 11, 1, 2, 9);
        check.due("its first profile has one channel", x.convert(f, 500, 0, 0), x.convert(f, 500, -1, 70000));
        check.due("links", 3, x.links());
    }

    private static void extendedAgain() {
        ColourLinker x = with(Draft.gray(0));
        check.due("link", 0, x.link(0, 0, 0, false));
        check.due("extend", 1, x.extend(0, 0, 0, false));
        check.due("extend with black", 2, x.extend(0, 0, 0, true));
        check.due("extend with intent 3", 3, x.extend(0, 0, 3, true));
        check.due("extend another one", 4, x.extend(1, 0, 0, false));
        check.due("extend again", 1, x.extend(0, 0, 0, false));
        check.due("extend with black again", 2, x.extend(0, 0, 0, true));
        check.due("extend with intent 3 again", 3, x.extend(0, 0, 3, false));
        check.due("extend another one again", 4, x.extend(1, 0, 0, false));
        check.due("link again", 0, x.link(0, 0, 0, false));
        check.due("link with black", 5, x.link(0, 0, 0, true));
        check.due("extend a link of the same passage", 6, x.extend(5, 0, 0, false));
        check.due("links", 7, x.links());
    }

    private static void tooLong() {
        ColourLinker x = with(bentGray(0), bentGray(1), Draft.gray(0), Draft.gray(1));
        int l = x.link(0, 0, 0, false);
        for (int i = 1; i < 6; i++) {
            l = x.extend(l, 0, 0, false);
            check.due("pieces", 4 + 4 * i, x.pieces(l));
        }
        check.due("24 pieces and 4", -9, x.extend(l, 0, 0, false));
        check.due("24 pieces and a refused passage", -2, x.extend(l, 0, 7, false));
        check.due("20 pieces and 4, again", l, x.extend(l - 1, 0, 0, false));
        check.due("20 pieces and 5", -9, x.extend(l - 1, 1, 0, false));
        check.due("20 pieces and 3", 6, x.extend(l - 1, 2, 0, false));
        check.due("23 pieces and 2", -9, x.extend(6, 2, 0, false));
        check.due("pieces of the longest", 24, x.pieces(l));
        check.due("links", 7, x.links());
        for (int i = 7; i < 16; i++) {
            check.due("links up to sixteen", i, x.link(i % 2 + 2, i / 2 % 2, i / 4, false));
        }
        check.due("LONG before FULL", -9, x.extend(l, 0, 0, false));
        check.due("FULL when not LONG", -8, x.extend(0, 3, 0, false));
    }

    private static void full() {
        ColourLinker x = with(Draft.gray(0), Draft.gray(1), Draft.gray(0), new Draft(1, 1, 0).entry(1, 1, 0));
        for (int i = 0; i < 16; i++) {
            check.due("link " + i, i, x.link(i / 8, i / 4 % 2, i % 4, false));
            check.due("links", i + 1, x.links());
        }
        check.due("a seventeenth link", -8, x.link(2, 0, 0, false));
        check.due("a seventeenth link by extend", -8, x.extend(0, 0, 0, false));
        check.due("one that is there", 5, x.link(0, 1, 1, false));
        check.due("a refused one", -3, x.link(0, 3, 0, false));
        check.due("a missing one", -1, x.link(0, 4, 0, false));
        check.due("links", 16, x.links());
    }
}
