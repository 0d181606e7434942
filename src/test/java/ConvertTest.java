/** Promises 18 to 20, convert, after and work, with every kind of piece. */
public final class ConvertTest {
    private static final Check check = new Check();

    public static void main(String[] args) {
        missing();
        oneChannel();
        noPieces();
        curves();
        matrix();
        matrixBack();
        grid();
        gridOfThree();
        spreadAndGather();
        lab();
        scale();
        black();
        prefix();
        work();
        workOfOneChannel();
        check.end();
    }

    private static ColourLinker with(Draft... drafts) {
        ColourLinker x = new ColourLinker();
        for (int i = 0; i < drafts.length; i++) {
            check.due("parse of draft " + i, i, drafts[i].parseInto(x));
        }
        return x;
    }

    private static void dueColour(String what, long got, int v0, int v1, int v2) {
        check.due(what, Check.colour(v0, v1, v2), got);
    }

    private static Draft shapedBy(int... m) {
        return new Draft(2, 3, 0).colours(1, 0).entry(5, Draft.matrix(m));
    }

    private static void missing() {
        ColourLinker x = with(Draft.shaped());
        check.due("convert without a link", -1, x.convert(0, 0, 0, 0));
        x.link(0, 0, 0, false);
        int[] wrong = {-1, 65536, Integer.MIN_VALUE, Integer.MAX_VALUE};
        for (int w : wrong) {
            check.due("convert with a = " + w, -1, x.convert(0, w, 0, 0));
            check.due("convert with b = " + w, -1, x.convert(0, 0, w, 0));
            check.due("convert with c = " + w, -1, x.convert(0, 0, 0, w));
            check.due("after with a = " + w, -1, x.after(0, 0, w, 0, 0));
            check.due("after with b = " + w, -1, x.after(0, 0, 0, w, 0));
            check.due("after with c = " + w, -1, x.after(0, 0, 0, 0, w));
            check.due("after with k = " + w, -1, x.after(0, w, 0, 0, 0));
            check.due("convert of link " + w, -1, x.convert(w, 0, 0, 0));
            check.due("after of link " + w, -1, x.after(w, 0, 0, 0, 0));
        }
        check.due("convert of link 1", -1, x.convert(1, 0, 0, 0));
        check.due("after with k = 4", x.convert(0, 1, 2, 3), x.after(0, 4, 1, 2, 3));
        check.due("after with k = 5", -1, x.after(0, 5, 0, 0, 0));
    }

    private static void oneChannel() {
        ColourLinker x = with(Draft.gray(0));
        x.link(0, 0, 0, false);
        dueColour("b and c are not looked at", x.convert(0, 54321, -1, 70000), 54321, 0, 0);
        dueColour("b and c are taken as 0", x.after(0, 0, 54321, 7, 8), 54321, 0, 0);
        check.due("a is looked at", -1, x.convert(0, 65536, 0, 0));
        check.due("a is looked at by after", -1, x.after(0, 1, -1, 0, 0));
    }

    private static void noPieces() {
        ColourLinker x = with(shapedBy(4096, 0, 0, 0, 4096, 0, 0, 0, 4096));
        x.link(0, 0, 0, false);
        dueColour("no pieces", x.convert(0, 1, 65535, 3), 1, 65535, 3);
        dueColour("after none of none", x.after(0, 0, 9, 8, 7), 9, 8, 7);
        check.due("after one of none", -1, x.after(0, 1, 9, 8, 7));
    }

    private static void curves() {
        Draft three = new Draft(2, 3, 0).entry(2, Draft.samples(0, 100)).entry(3, Draft.power(2, 0, 0))
            .entry(4, Draft.samples(5, 65535)).entry(5, Draft.unit());
        ColourLinker x = with(three, new Draft(2, 1, 1).entry(1, Draft.samples(10, 20, 1000)));
        x.link(0, 0, 0, false);
        dueColour("three curves", x.after(0, 1, 65535, 32768, 0), 100, 16384, 5);
        dueColour("and back", x.after(0, 2, 65535, 32768, 0), 65208, 32768, 0);
        x.link(1, 1, 0, false);
        dueColour("one curve", x.after(1, 1, 65535, 0, 0), 1000, 0, 0);
        dueColour("one curve back", x.convert(1, 0, 0, 0), 0, 0, 0);
    }

    private static void matrix() {
        ColourLinker x = with(shapedBy(8192, 0, 0, 0, 0, 4096, 1, -1, 2048), Draft.gray(0));
        x.link(0, 1, 0, false);
        // the last level: (v0 - v1 + 2048 * v2) / 4096
        dueColour("clipped above, and halves go up", x.after(0, 1, 40000, 40000, 1), 65535, 1, 1);
        dueColour("nearly a half goes down", x.after(0, 1, 3, 4, 1), 6, 1, 0);
        dueColour("clipped below", x.after(0, 1, 0, 65535, 0), 0, 0, 0);
        dueColour("half below 0 goes up to 0", x.after(0, 1, 0, 2048, 0), 0, 0, 0);
        dueColour("every level is worked out from the old ones", x.after(0, 1, 10, 20, 30), 20, 30, 15);
    }

    private static void matrixBack() {
        ColourLinker x = with(shapedBy(4096, 0, 0, 0, 4096, 0, 0, 0, 4096),
            shapedBy(0, 8192, 0, -4096, 0, 0, 0, 0, 1000), shapedBy(-32768, 32767, 5, 3, -32768, 32767, 32767, 7, -32768));
        x.link(0, 1, 0, false);
        // x1 = v0 / 2, x0 = -v1, x2 = 4.096 * v2
        dueColour("back by a matrix", x.convert(0, 101, 0, 10), 0, 51, 41);
        dueColour("back, clipped below and above", x.convert(0, 100, 7, 65535), 0, 50, 65535);
        x.link(2, 2, 0, false);
        dueColour("greatest numbers", x.convert(1, 0, 0, 0), 0, 0, 0);
    }

    private static void grid() {
        int[] g = Draft.still();
        // node (1, 0, 0) is no longer red alone
        g[2 + 12 + 1] = 100;
        ColourLinker x = with(new Draft(2, 3, 0).entry(6, g).entry(9, Draft.still()));
        x.link(0, 0, 0, false);
        dueColour("a node", x.after(0, 1, 65535, 0, 0), 65535, 25700, 0);
        dueColour("the last node", x.after(0, 1, 65535, 65535, 65535), 65535, 65535, 65535);
        // going along i from 0 to 25700, then along j from 25700 to 65535
        long want = Math.round((30000.0 * 25700 + 20000.0 * (65535 - 25700)) / 65535);
        dueColour("first along i", x.after(0, 1, 30000, 20000, 10000), 30000, (int) want, 10000);
        dueColour("first along j", x.after(0, 1, 20000, 30000, 10000), 20000, 30000, 10000);
        dueColour("along i, then k", x.after(0, 1, 30000, 10000, 20000), 30000,
            (int) Math.round((30000.0 * 25700 - 20000.0 * 25700 + 10000.0 * 65535) / 65535), 20000);
        dueColour("all rests equal", x.after(0, 1, 777, 777, 777), 777, 777, 777);
        dueColour("and back", x.convert(0, 20000, 30000, 10000), 20000, 30000, 10000);
    }

    private static void gridOfThree() {
        int[] g = new int[83];
        g[0] = 4;
        g[1] = 3;
        for (int i = 0; i < 3; i++) {
            for (int j = 0; j < 3; j++) {
                for (int k = 0; k < 3; k++) {
                    int b = 2 + 3 * ((i * 3 + j) * 3 + k);
                    g[b] = i == 0 ? 0 : i == 1 ? 10 : 255;
                    g[b + 1] = 100 * j;
                    g[b + 2] = 200 - 100 * k;
                }
            }
        }
        ColourLinker x = with(new Draft(2, 3, 0).entry(6, g).entry(9, Draft.still()));
        x.link(0, 0, 0, false);
        dueColour("the first node", x.after(0, 1, 0, 0, 0), 0, 0, 51400);
        dueColour("the last node", x.after(0, 1, 65535, 65535, 65535), 65535, 51400, 0);
        // q = 65536: the second cell, a rest of 1
        dueColour("just in the second cell", x.after(0, 1, 32768, 32767, 32768), 2571, 25700, 25700);
        // v0 = 49152: q = 98304, rest 32769 of 65535 of the way from 2570 to 65535
        dueColour("half in the second cell", x.after(0, 1, 49152, 0, 0), 34054, 0, 51400);
    }

    private static void spreadAndGather() {
        ColourLinker x = with(Draft.gray(0), Draft.gray(1), shapedBy(4096, 0, 0, 0, 4096, 0, 0, 0, 4096));
        x.link(0, 0, 0, false);
        dueColour("spread in XYZ", x.after(0, 1, 65535, 0, 0), 31595, 32768, 27030);
        dueColour("spread of 1", x.after(0, 1, 1, 0, 0), 0, 1, 0);
        dueColour("gather in XYZ", x.convert(0, 65535, 0, 0), 65535, 0, 0);
        x.link(1, 1, 0, false);
        dueColour("spread in LAB", x.after(1, 1, 77, 0, 0), 77, 32896, 32896);
        dueColour("gather in LAB", x.convert(1, 77, 0, 0), 77, 0, 0);
        x.link(2, 0, 0, false);
        dueColour("gather, clipped", x.convert(2, 5, 32769, 5), 65535, 0, 0);
        dueColour("gather of the half", x.convert(2, 5, 16384, 5), 32768, 0, 0);
    }

    private static void lab() {
        ColourLinker x = with(shapedBy(4096, 0, 0, 0, 4096, 0, 0, 0, 4096),
            new Draft(2, 3, 1).entry(6, Draft.still()).shared(9, 6));
        x.link(0, 1, 0, false);
        x.link(1, 0, 0, false);
        dueColour("D to LAB", x.after(0, 1, 31595, 32768, 27030), 65535, 32896, 32896);
        dueColour("black to LAB", x.after(0, 1, 0, 0, 0), 1, 32896, 32896);
        // u = 290 is the last one below the bend: N(841 * 290 / 216) + 2260 = 3389
        dueColour("below the bend", x.after(0, 1, 280, 290, 239), 5239, 32896, 32896);
        dueColour("white to XYZ", x.after(1, 2, 65535, 32896, 32896), 31595, 32768, 27030);
        dueColour("black to XYZ", x.after(1, 2, 0, 32896, 32896), 0, 0, 0);
        dueColour("far from gray", x.after(1, 2, 65535, 65535, 0), 62308, 32768, 65535);
        dueColour("clipped at 0", x.after(1, 2, 0, 0, 65535), 0, 0, 0);
        // worked out by another program, with exact fractions: a colour, then what it becomes
        int[][] toLab = {
            {281, 291, 240, 5253, 32896, 32896}, {290, 280, 250, 5058, 33531, 32620}, {1, 2, 3, 38, 32865, 32871},
            {12345, 23456, 3456, 57517, 11885, 52980}, {65535, 65535, 65535, 65535, 34872, 28604},
            {0, 65535, 0, 65535, 0, 65535}, {65535, 0, 65535, 1, 65535, 0}, {30000, 20000, 10000, 53995, 50198, 39597},
            {40000, 30000, 50000, 63331, 47131, 19710}, {30001, 29876, 28765, 63229, 34590, 30261}};
        for (int[] t : toLab) {
            dueColour("to LAB", x.after(0, 1, t[0], t[1], t[2]), t[3], t[4], t[5]);
        }
        int[][] toXyz = {
            {5243, 32896, 32896, 280, 290, 239}, {3000, 33000, 32000, 163, 166, 197}, {12345, 23456, 34567, 368, 887, 519},
            {40000, 50000, 10000, 16010, 9598, 36923}, {65535, 0, 65535, 13013, 32768, 1314},
            {30001, 29876, 28765, 4169, 4950, 6225}, {2500, 40000, 25000, 365, 138, 923},
            {60001, 32001, 33001, 24621, 26119, 21405}};
        for (int[] t : toXyz) {
            dueColour("to XYZ", x.after(1, 2, t[0], t[1], t[2]), t[3], t[4], t[5]);
        }
    }

    private static void scale() {
        ColourLinker x = with(Draft.gray(0).white(10000, 20000, 3), Draft.shaped().white(20000, 10000, 2));
        x.link(0, 1, 3, false);
        check.due("scale", 7, x.piece(0, 1));
        dueColour("before it", x.after(0, 1, 32768, 0, 0), 15798, 16384, 13515);
        dueColour("after it", x.after(0, 2, 32768, 0, 0), 7899, 32768, 20273);
        dueColour("clipped", x.after(0, 2, 65535, 0, 0), 15798, 65535, 40545);
    }

    private static void black() {
        ColourLinker x = with(shapedBy(4096, 0, 0, 0, 4096, 0, 0, 0, 4096),
            new Draft(2, 1, 0).entry(1, Draft.samples(16384, 65535)));
        x.link(1, 0, 0, true);
        check.due("black", 8, x.piece(0, 2));
        // the black level of the gray one: N(32768 * 16384 / 65535) = 8192
        dueColour("before it", x.after(0, 2, 0, 0, 0), 7899, 8192, 6758);
        dueColour("after it", x.after(0, 3, 0, 0, 0), 0, 0, 1);
        dueColour("white stays", x.after(0, 3, 65535, 0, 0), 31595, 32768, 27030);
        x.link(0, 1, 0, true);
        // N((27030 - 0) * 24576 / 32768) = N(20272.5) = 20273
        dueColour("towards the lighter black", x.after(1, 1, 0, 0, 0), 7899, 8192, 6757);
        dueColour("over D", x.after(1, 1, 65535, 65535, 65535), 57050, 57343, 55909);
    }

    private static void prefix() {
        ColourLinker x = with(Draft.shaped());
        x.link(0, 0, 0, false);
        dueColour("after none", x.after(0, 0, 1, 2, 3), 1, 2, 3);
        dueColour("after the curves", x.after(0, 1, 65535, 32768, 0), 65535, 16384, 0);
        dueColour("after the matrix", x.after(0, 2, 65535, 32768, 0), 34816, 20480, 1024);
        dueColour("after the matrix back", x.after(0, 3, 65535, 32768, 0), 65535, 16384, 0);
        dueColour("after all", x.after(0, 4, 65535, 32768, 0), 65535, 32768, 0);
        check.due("after -1", -1, x.after(0, -1, 0, 0, 0));
        check.due("after is no conversion", 0, x.work());
    }

    private static void work() {
        ColourLinker x = with(Draft.shaped());
        x.link(0, 0, 0, false);
        x.extend(0, 0, 0, false);
        x.convert(0, 0, 0, 0);
        check.due("the first, though it is black", 4, x.work());
        x.convert(0, 0, 0, 0);
        check.due("the same", 4, x.work());
        x.convert(0, 0, 0, 1);
        check.due("another", 8, x.work());
        x.convert(0, 0, 0, 0);
        check.due("not the latest", 12, x.work());
        x.convert(1, 0, 0, 0);
        check.due("the same with another link", 20, x.work());
        x.convert(0, 0, 0, 0);
        check.due("the same, with another link between", 20, x.work());
        x.after(0, 2, 9, 9, 9);
        x.convert(0, 9, 9, 65536);
        x.convert(9, 9, 9, 9);
        check.due("what is refused is no conversion", 20, x.work());
        long first = x.convert(0, 0, 0, 0);
        check.due("the same after refused ones", 20, x.work());
        check.due("its answer", x.after(0, 4, 0, 0, 0), first);
        x.convert(0, 9, 9, 9);
        check.due("after() before it did not count", 24, x.work());
        x.convert(1, 0, 0, 0);
        check.due("the latest of the other link", 24, x.work());
    }

    private static void workOfOneChannel() {
        ColourLinker x = with(Draft.gray(0), shapedBy(4096, 0, 0, 0, 4096, 0, 0, 0, 4096));
        x.link(0, 0, 0, false);
        x.convert(0, 5, 1, 2);
        check.due("one channel", 2, x.work());
        x.convert(0, 5, 3, -4);
        check.due("the colour as taken is the same", 2, x.work());
        x.convert(0, 6, 3, -4);
        check.due("the colour as taken is another", 4, x.work());
        x.link(1, 1, 0, false);
        x.convert(1, 6, 0, 0);
        check.due("a link without pieces", 4, x.work());
    }
}
