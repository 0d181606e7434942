/** The boundary cases of NUMBERS and of PIECES, a method for each sentence. */
public final class PieceEdgeTest {
    private static final Check check = new Check();

    public static void main(String[] args) {
        clip();
        halves();
        halvesBelowNothing();
        nothingWraps();
        signedWords();
        curvesOfOneChannel();
        curvesOfThreeChannels();
        matrixFromOldLevels();
        gridNodesOfTwo();
        gridNodesOfThree();
        gridCells();
        gridEqualRests();
        gridGreatestFirst();
        spread();
        toLabBend();
        toLabRoots();
        toLabClipped();
        toLabNearHalves();
        toXyzBend();
        toXyzClipped();
        toXyzNearHalves();
        scale();
        black();
        blackNextToWhite();
        gather();
        matrixBack();
        matrixBackExact();
        curvesBack();
        curvesLeftOut();
        matrixLeftOut();
        check.end();
    }

    private static void clip() {
        check.says("CLIP(v) is v, but 0 when v is less than 0, and 65535 when v is more than 65535.");
        ColourLinker x = Draft.with(check, Draft.shapedBy(4096, 4096, 0, 4096, -4096, 0, 0, 0, 4096), Draft.gray(0));
        x.link(0, 1, 0, false);
        check.dueColour("65534 + 1, 65534 - 1", x.after(0, 1, 65534, 1, 0), 65535, 65533, 0);
        check.dueColour("65535 + 1, 65535 - 1", x.after(0, 1, 65535, 1, 0), 65535, 65534, 0);
        check.dueColour("1 + 65535, 1 - 65535", x.after(0, 1, 1, 65535, 0), 65535, 0, 0);
        check.dueColour("1 + 1, 1 - 1", x.after(0, 1, 1, 1, 0), 2, 0, 0);
        check.dueColour("0 + 1, 0 - 1", x.after(0, 1, 0, 1, 0), 1, 0, 0);
        check.dueColour("65535 + 65535, 65535 - 65535", x.after(0, 1, 65535, 65535, 65535), 65535, 0, 65535);
    }

    private static void halves() {
        check.says("N(q) is the whole number nearest to the exact quotient q, and the greater one of two that are equally near");
        ColourLinker x = Draft.with(check, Draft.shapedBy(2048, 0, 0, 0, 2047, 0, 0, -2048, 4096), Draft.gray(0));
        x.link(0, 1, 0, false);
        check.dueColour("1 / 2, just less", x.after(0, 1, 1, 1, 1), 1, 0, 1);
        check.dueColour("3 / 2, just less, and 3 - 3 / 2", x.after(0, 1, 3, 3, 3), 2, 1, 2);
        check.dueColour("5 / 2, just less, and 5 - 5 / 2", x.after(0, 1, 5, 5, 5), 3, 2, 3);
        check.dueColour("65535 / 2", x.after(0, 1, 65535, 0, 0), 32768, 0, 0);
    }

    /** With the black level 16384 of B, a level goes half its way from D. */
    private static void halvesBelowNothing() {
        check.says("(N(-1/2) is 0)");
        ColourLinker x = Draft.with(check, Draft.plain(), Draft.gray(0, 32767, 65535));
        x.link(0, 1, 0, true);
        check.due("the piece is BLACK", 8, x.piece(0, 0));
        check.dueColour("D", x.after(0, 1, 31595, 32768, 27030), 31595, 32768, 27030);
        check.dueColour("D - N(-1/2)", x.after(0, 1, 31596, 32769, 27031), 31595, 32768, 27030);
        check.dueColour("D - N(-1)", x.after(0, 1, 31597, 32770, 27032), 31596, 32769, 27031);
        check.dueColour("D - N(-3/2)", x.after(0, 1, 31598, 32771, 27033), 31596, 32769, 27031);
        check.dueColour("D - N(1/2)", x.after(0, 1, 31594, 32767, 27029), 31594, 32767, 27029);
        check.dueColour("D - N(3/2)", x.after(0, 1, 31592, 32765, 27027), 31593, 32766, 27028);
        // TO LAB: x - y is -2048 and 2048, then y - z is -1024 and 1024, which give halves
        ColourLinker y = Draft.with(check, Draft.plain(), Draft.still(1));
        y.link(0, 1, 0, false);
        check.dueColour("32896 + N(-16062.5)", y.after(0, 1, 283, 1208, 0), 14811, 16834, 42910);
        check.dueColour("32896 + N(16062.5)", y.after(0, 1, 1554, 461, 0), 7865, 48959, 38214);
        check.dueColour("32896 + N(-3212.5)", y.after(0, 1, 0, 1611, 2132), 17363, 3547, 29684);
        check.dueColour("32896 + N(3212.5)", y.after(0, 1, 0, 1612, 759), 17368, 3540, 36109);
    }

    private static void nothingWraps() {
        check.says("Nothing wraps, and nothing is rounded but where N stands.");
        ColourLinker x = Draft.with(check,
            Draft.shapedBy(32767, 32767, 32767, -32768, -32768, -32768, -32768, 32767, 32767), Draft.gray(0));
        x.link(0, 1, 0, false);
        check.dueColour("the greatest sums", x.after(0, 1, 65535, 65535, 65535), 65535, 0, 65535);
        check.dueColour("one level alone", x.after(0, 1, 65535, 0, 0), 65535, 0, 0);
        check.dueColour("sums near 0", x.after(0, 1, 1, 0, 0), 8, 0, 0);
        // 65535 * 65535 / 65535
        ColourLinker white = Draft.with(check, Draft.plain().white(65535, 65535, 65535), Draft.plain().white(65535, 65534, 1));
        white.link(0, 1, 3, false);
        check.dueColour("scaled by the greatest", white.after(0, 1, 65535, 65534, 65535), 65535, 65535, 65535);
        check.dueColour("scaled by the greatest, half", white.after(0, 1, 32768, 32767, 1), 32768, 32768, 65535);
        // the cube of the greatest z, 26870, is more than an int holds
        ColourLinker lab = Draft.with(check, Draft.still(1), Draft.plain());
        lab.link(0, 1, 0, false);
        check.dueColour("the greatest cube", lab.after(0, 2, 65535, 65535, 0), 62308, 32768, 65535);
        check.due("the greatest product of a line", 65535, Draft.with(check, new Draft(2, 1, 0).entry(1, Draft.power(1, 65535, 65535)))
            .curve(0, 1, 65534, false));
        check.due("the greatest product of samples", 65534, Draft.with(check, Draft.gray(0, 0, 65535)).curve(0, 1, 65534, false));
    }

    private static void signedWords() {
        check.says("the SIGNED word is the same, less 65536 when that is 32768 or more");
        ColourLinker x = Draft.with(check, Draft.shapedBy(32767, 0, 0, 4096, 32768, 0, 0, 65535, 4096), Draft.gray(0));
        x.link(0, 1, 0, false);
        // 32767 / 4096 = 7.9997..; 80 - 8 * 10; 10 - 10 / 4096
        check.dueColour("32767, 32768 and 65535", x.after(0, 1, 80, 10, 10), 640, 0, 10);
        check.dueColour("32768 is -8", x.after(0, 1, 81, 10, 10), 648, 1, 10);
        check.dueColour("65535 is -1 / 4096", x.after(0, 1, 0, 2049, 1), 0, 0, 0);
        check.dueColour("65535 is -1 / 4096, a half", x.after(0, 1, 0, 2048, 1), 0, 0, 1);
    }

    private static void curvesOfOneChannel() {
        check.says("1 CURVES: with one channel v0 becomes the value of GRAY at v0, v1 and v2 stay.");
        // RED, GREEN and BLUE are there, but of no use
        Draft d = Draft.gray(0, 100, 200).entry(2, Draft.samples(5, 6)).shared(3, 2).shared(4, 2);
        ColourLinker x = Draft.with(check, d);
        x.link(0, 0, 0, false);
        check.due("piece 0", 1, x.piece(0, 0));
        check.dueColour("GRAY at 0", x.after(0, 1, 0, 9, 9), 100, 0, 0);
        check.dueColour("GRAY at 65535", x.after(0, 1, 65535, 9, 9), 200, 0, 0);
    }

    private static void curvesOfThreeChannels() {
        check.says("1 CURVES: with three channels the values of RED at v0, GREEN at v1, BLUE at v2");
        Draft d = new Draft(2, 3, 0).entry(1, Draft.samples(7, 8)).entry(4, Draft.samples(5, 6)).entry(3, Draft.samples(3, 4))
            .entry(2, Draft.samples(1, 2)).entry(5, Draft.unit());
        ColourLinker x = Draft.with(check, d);
        x.link(0, 0, 0, false);
        check.dueColour("at 0", x.after(0, 1, 0, 0, 0), 1, 3, 5);
        check.dueColour("at 65535", x.after(0, 1, 65535, 65535, 65535), 2, 4, 6);
        check.dueColour("v0 alone at 65535", x.after(0, 1, 65535, 0, 0), 2, 3, 5);
        check.dueColour("v1 alone at 65535", x.after(0, 1, 0, 65535, 0), 1, 4, 5);
        check.dueColour("v2 alone at 65535", x.after(0, 1, 0, 0, 65535), 1, 3, 6);
    }

    private static void matrixFromOldLevels() {
        check.says("every new level is worked out from the three old ones");
        ColourLinker x = Draft.with(check, Draft.shapedBy(0, 4096, 0, 0, 0, 4096, 4096, 0, 0), Draft.gray(0));
        x.link(0, 1, 0, false);
        check.dueColour("in a circle", x.after(0, 1, 1, 2, 3), 2, 3, 1);
        x.link(0, 0, 0, false);
        check.dueColour("in a circle and back", x.convert(1, 1, 2, 3), 1, 2, 3);
        int[] turned = new int[26];
        turned[0] = 4;
        turned[1] = 2;
        for (int n = 0; n < 8; n++) {
            turned[2 + 3 * n] = n % 2 * 255;
            turned[3 + 3 * n] = n / 4 * 255;
            turned[4 + 3 * n] = n / 2 % 2 * 255;
        }
        ColourLinker y = Draft.with(check, new Draft(2, 3, 0).entry(6, turned).entry(9, Draft.still()));
        y.link(0, 0, 0, false);
        check.dueColour("a grid in a circle", y.after(0, 1, 1, 2, 3), 3, 1, 2);
    }

    /** Byte n of the grid, whose nodes all have other levels that never differ by much. */
    private static int[] counted(int g) {
        int[] bytes = new int[2 + 3 * g * g * g];
        bytes[0] = 4;
        bytes[1] = g;
        for (int n = 2; n < bytes.length; n++) {
            bytes[n] = 100 + (n * 37 + n * n) % 83;
        }
        return bytes;
    }

    private static void gridNodesOfTwo() {
        check.says("3 GRID: NODE (i, j, k) .. has as its three levels 257 times byte b, b + 1 and b + 2 of the data (g = 2)");
        int[] g = counted(2);
        ColourLinker x = Draft.with(check, new Draft(2, 3, 0).entry(6, g).entry(9, Draft.still()));
        x.link(0, 0, 0, false);
        for (int n = 0; n < 8; n++) {
            int b = 2 + 3 * n;
            check.dueColour("node " + n, x.after(0, 1, n / 4 * 65535, n / 2 % 2 * 65535, n % 2 * 65535),
                257 * g[b], 257 * g[b + 1], 257 * g[b + 2]);
        }
        int[] ends = Draft.flat(2, 255, 0, 255);
        ColourLinker y = Draft.with(check, new Draft(2, 3, 0).entry(6, ends).entry(9, Draft.still()));
        y.link(0, 0, 0, false);
        check.dueColour("bytes 0 and 255", y.after(0, 1, 12345, 0, 65535), 65535, 0, 65535);
    }

    /** No level lies just on a middle node; 32768 is so near that it makes no difference here. */
    private static void gridNodesOfThree() {
        check.says("3 GRID: NODE (i, j, k) .. where b = 2 + 3 * ((i * g + j) * g + k) (g = 3)");
        int[] g = counted(3);
        int[] levels = {0, 32768, 65535};
        int[] before = {0, 32767, 65535};
        ColourLinker x = Draft.with(check, new Draft(2, 3, 0).entry(6, g).entry(9, Draft.still()));
        x.link(0, 0, 0, false);
        for (int n = 0; n < 27; n++) {
            int b = 2 + 3 * n;
            check.dueColour("node " + n, x.after(0, 1, levels[n / 9], levels[n / 3 % 3], levels[n % 3]),
                257 * g[b], 257 * g[b + 1], 257 * g[b + 2]);
            check.dueColour("just before node " + n, x.after(0, 1, before[n / 9], before[n / 3 % 3], before[n % 3]),
                257 * g[b], 257 * g[b + 1], 257 * g[b + 2]);
        }
    }

    private static void gridCells() {
        check.says("3 GRID: .. its cell the lesser one of g - 2 and the whole part of q / 65535, its rest f = q - 65535 * cell");
        // along i the levels are 0, 0, 65535, so that only the second cell rises
        int[] late = new int[83];
        late[0] = 4;
        late[1] = 3;
        for (int n = 18; n < 27; n++) {
            late[2 + 3 * n] = 255;
        }
        ColourLinker x = Draft.with(check, new Draft(2, 3, 0).entry(6, late).entry(9, Draft.still()));
        x.link(0, 0, 0, false);
        int[][] pairs = {{0, 0}, {32767, 0}, {32768, 1}, {32769, 3}, {49151, 32767}, {65534, 65533}, {65535, 65535}};
        for (int[] p : pairs) {
            check.dueColour("second cell at " + p[0], x.after(0, 1, p[0], 0, 0), p[1], 0, 0);
            check.dueColour("second cell at " + p[0] + ", others at their ends", x.after(0, 1, p[0], 65535, 65535), p[1], 0, 0);
        }
        ColourLinker y = Draft.with(check, Draft.still(0));
        y.link(0, 0, 0, false);
        check.dueColour("g = 2 has one cell", y.after(0, 1, 65535, 65534, 32768), 65535, 65534, 32768);
        check.dueColour("g = 2 at the ends", y.after(0, 1, 0, 65535, 1), 0, 65535, 1);
    }

    /** The new levels when one goes along the axes in the order told, for g = 2. */
    private static long gone(int[] g, int[] v, int... order) {
        long[] now = new long[3];
        int node = 0;
        for (int c = 0; c < 3; c++) {
            now[c] = 65535L * 257 * g[2 + c];
        }
        for (int axis : order) {
            int next = node + (axis == 0 ? 4 : axis == 1 ? 2 : 1);
            for (int c = 0; c < 3; c++) {
                now[c] += (long) v[axis] * 257 * (g[2 + 3 * next + c] - g[2 + 3 * node + c]);
            }
            node = next;
        }
        return Check.colour(rounded(now[0]), rounded(now[1]), rounded(now[2]));
    }

    private static int rounded(long sum) {
        return (int) ((2 * sum + 65535) / 131070);
    }

    private static void gridEqualRests() {
        check.says("3 GRID: (the order of equal rests makes no difference)");
        int[] g = counted(2);
        ColourLinker x = Draft.with(check, new Draft(2, 3, 0).entry(6, g).entry(9, Draft.still()));
        x.link(0, 0, 0, false);
        int[][] colours = {{9000, 9000, 200}, {200, 9000, 9000}, {9000, 200, 9000}, {9000, 60000, 60000}, {60000, 9000, 60000},
            {60000, 60000, 9000}, {777, 777, 777}, {0, 0, 65535}, {65535, 0, 0}, {0, 65535, 0}};
        int[][][] orders = {{{0, 1, 2}, {1, 0, 2}}, {{1, 2, 0}, {2, 1, 0}}, {{0, 2, 1}, {2, 0, 1}}, {{1, 2, 0}, {2, 1, 0}},
            {{0, 2, 1}, {2, 0, 1}}, {{0, 1, 2}, {1, 0, 2}}, {{0, 1, 2}, {2, 1, 0}}, {{2, 0, 1}, {2, 1, 0}}, {{0, 1, 2}, {0, 2, 1}},
            {{1, 0, 2}, {1, 2, 0}}};
        for (int i = 0; i < colours.length; i++) {
            int[] v = colours[i];
            long got = x.after(0, 1, v[0], v[1], v[2]);
            check.due("equal rests " + i, gone(g, v, orders[i][0]), got);
            check.due("equal rests " + i + ", the other order", gone(g, v, orders[i][1]), got);
        }
    }

    private static void gridGreatestFirst() {
        check.says("3 GRID: .. first along that with the greatest rest, last along that with the least");
        int[] g = counted(2);
        ColourLinker x = Draft.with(check, new Draft(2, 3, 0).entry(6, g).entry(9, Draft.still()));
        x.link(0, 0, 0, false);
        int[][] orders = {{0, 1, 2}, {0, 2, 1}, {1, 0, 2}, {1, 2, 0}, {2, 0, 1}, {2, 1, 0}};
        int[][] rests = {{50000, 30000, 10000}, {65535, 65534, 65533}, {2, 1, 0}, {65535, 1, 0}};
        for (int[] o : orders) {
            for (int[] r : rests) {
                int[] v = new int[3];
                for (int i = 0; i < 3; i++) {
                    v[o[i]] = r[i];
                }
                check.due("first along " + o[0] + ", last along " + o[2], gone(g, v, o), x.after(0, 1, v[0], v[1], v[2]));
            }
        }
    }

    private static void spread() {
        check.says("4 SPREAD: when the SPACE is XYZ, vi becomes N(Di * v0 / 65535); when it is LAB, v0 stays, v1 and v2 become 32896.");
        ColourLinker x = Draft.with(check, Draft.gray(0), Draft.gray(1));
        x.link(0, 0, 0, false);
        check.dueColour("XYZ of 0", x.after(0, 1, 0, 0, 0), 0, 0, 0);
        check.dueColour("XYZ of 1", x.after(0, 1, 1, 0, 0), 0, 1, 0);
        check.dueColour("XYZ of 2", x.after(0, 1, 2, 0, 0), 1, 1, 1);
        check.dueColour("XYZ of 65534", x.after(0, 1, 65534, 0, 0), 31595, 32767, 27030);
        check.dueColour("XYZ of 65535", x.after(0, 1, 65535, 0, 0), 31595, 32768, 27030);
        x.link(1, 1, 0, false);
        check.dueColour("LAB of 0", x.after(1, 1, 0, 0, 0), 0, 32896, 32896);
        check.dueColour("LAB of 65535", x.after(1, 1, 65535, 0, 0), 65535, 32896, 32896);
    }

    private static ColourLinker labLinks() {
        ColourLinker x = Draft.with(check, Draft.plain(), Draft.still(1));
        check.due("to LAB", 0, x.link(0, 1, 0, false));
        check.due("to XYZ", 1, x.link(1, 0, 0, false));
        return x;
    }

    private static void toLabBend() {
        check.says("5 TO LAB: .. when u > 290, the greatest whole number r ..; otherwise N(841 * u / 216) + 2260.");
        ColourLinker x = labLinks();
        // F is 3385, 3389, 3392 at u = 289, 290, 291; the root at 290 would be 3388, the line at 291 3393
        check.dueColour("y at 289", x.after(0, 1, 0, 289, 0), 5221, 24073, 36425);
        check.dueColour("y at 290", x.after(0, 1, 0, 290, 0), 5239, 24041, 36438);
        check.dueColour("y at 291", x.after(0, 1, 0, 291, 0), 5253, 24018, 36447);
        // N(32768 * 279 / 31595) = 289, 280 gives 290, 281 gives 291
        check.dueColour("x at 289", x.after(0, 1, 279, 0, 0), 1, 41719, 32896);
        check.dueColour("x at 290", x.after(0, 1, 280, 0, 0), 1, 41751, 32896);
        check.dueColour("x at 291", x.after(0, 1, 281, 0, 0), 1, 41774, 32896);
        // N(32768 * 238 / 27030) = 289, 239 gives 290, 240 gives 291
        check.dueColour("z at 289", x.after(0, 1, 0, 0, 238), 1, 32896, 29367);
        check.dueColour("z at 290", x.after(0, 1, 0, 0, 239), 1, 32896, 29354);
        check.dueColour("z at 291", x.after(0, 1, 0, 0, 240), 1, 32896, 29345);
    }

    private static void toLabRoots() {
        check.says("5 TO LAB: .. the greatest whole number r with r * r * r not more than 134217728 * u");
        ColourLinker x = labLinks();
        // u = 4096 = 16 * 16 * 16 has the root 8192 just; u = 4095 has 8191; u = 32768 has 16384, 32767 has 16383
        check.dueColour("y at 4096", x.after(0, 1, 0, 4096, 0), 27525, 0, 51506);
        check.dueColour("y at 4095", x.after(0, 1, 0, 4095, 0), 27520, 0, 51503);
        check.dueColour("D", x.after(0, 1, 31595, 32768, 27030), 65535, 32896, 32896);
        check.dueColour("y just below D", x.after(0, 1, 31595, 32767, 27030), 65530, 32904, 32893);
        check.dueColour("black", x.after(0, 1, 0, 0, 0), 1, 32896, 32896);
    }

    private static void toLabClipped() {
        check.says("5 TO LAB: The new levels: CLIP(..), CLIP(..), CLIP(..).");
        ColourLinker x = labLinks();
        // F(32800) is 16389, 5 more than F(D1)
        check.dueColour("y over D", x.after(0, 1, 31595, 32800, 27030), 65535, 32857, 32912);
        check.dueColour("y alone", x.after(0, 1, 0, 65535, 0), 65535, 0, 65535);
        check.dueColour("all but y", x.after(0, 1, 65535, 0, 65535), 1, 65535, 0);
        check.dueColour("all", x.after(0, 1, 65535, 65535, 65535), 65535, 34872, 28604);
    }

    /** Worked out by another program, with exact fractions; a constant that is off by 1 makes a difference in one of them. */
    private static void toLabNearHalves() {
        check.says("5 TO LAB: .. CLIP(N((116 * y - 262144) * 65535 / 1638400)), CLIP(32896 + N(128500 * (x - y) / 16384)), CLIP(32896 + N(51400 * (y - z) / 16384))");
        ColourLinker x = labLinks();
        int[][] due = {{8, 144, 32653, 32993}, {30, 544, 31978, 33263}, {40, 724, 31672, 33385}, {43, 776, 31586, 33420},
            {75, 1355, 30606, 33812}, {219, 3958, 26206, 35572}, {343, 6144, 22512, 37050}, {512, 8520, 18496, 38656},
            {556, 9049, 17602, 39014}, {566, 9165, 17406, 39092}};
        for (int[] d : due) {
            check.dueColour("to LAB of y = " + d[0], x.after(0, 1, 0, d[0], 0), d[1], d[2], d[3]);
        }
    }

    private static void toXyzBend() {
        check.says("6 TO XYZ: .. G(f) be N(f * f * f / 134217728) when f > 3389, otherwise N((f - 2260) * 216 / 841).");
        ColourLinker x = labLinks();
        // y is 3388 at 5236, 3389 at 5241, 3390 at 5242 and 5246, 3391 at 5247, where the line would give 290
        int[][] due = {{5236, 280, 290, 239}, {5241, 280, 290, 239}, {5242, 280, 290, 239}, {5246, 280, 290, 239}, {5247, 281, 291, 240}};
        for (int[] d : due) {
            check.dueColour("to XYZ of " + d[0], x.after(1, 2, d[0], 32896, 32896), d[1], d[2], d[3]);
        }
        // far below the bend the cube would give 86, far above it the line 3631
        check.dueColour("below the bend", x.after(1, 2, 25, 32896, 32896), 1, 1, 1);
        check.dueColour("at the lowest level", x.after(1, 2, 0, 32896, 32896), 0, 0, 0);
        check.dueColour("at the highest level", x.after(1, 2, 65535, 32896, 32896), 31595, 32768, 27030);
    }

    private static void toXyzClipped() {
        check.says("6 TO XYZ: The new levels: CLIP(N(31595 * G(x) / 32768)), CLIP(G(y)), CLIP(N(27030 * G(z) / 32768)).");
        ColourLinker x = labLinks();
        check.dueColour("x and z below 0", x.after(1, 2, 0, 0, 65535), 0, 0, 0);
        check.dueColour("x below 0 alone", x.after(1, 2, 0, 0, 32896), 0, 0, 0);
        check.dueColour("z over 65535", x.after(1, 2, 65535, 32896, 0), 31595, 32768, 65535);
        check.dueColour("the greatest x", x.after(1, 2, 65535, 65535, 32896), 62308, 32768, 27030);
        check.dueColour("the least x", x.after(1, 2, 65535, 0, 32896), 13013, 32768, 27030);
        check.dueColour("the least z", x.after(1, 2, 65535, 32896, 65535), 31595, 32768, 1314);
    }

    /** As with TO LAB. */
    private static void toXyzNearHalves() {
        check.says("6 TO XYZ: let y = N((100 * v0 + 1048560) * 16384 / 7602060), x = y + N((v1 - 32896) * 16384 / 128500), z = y - N((v2 - 32896) * 16384 / 51400)");
        ColourLinker x = labLinks();
        int[][] due = {{170, 32896, 32896, 10, 10, 8}, {333, 32896, 32896, 17, 18, 15}, {2541, 32896, 32896, 135, 140, 115},
            {2773, 32896, 32896, 148, 154, 127}, {4796, 32896, 32896, 256, 265, 219}, {7979, 32896, 32896, 453, 470, 388},
            {10350, 32896, 32896, 650, 674, 556}, {10582, 32896, 32896, 673, 698, 576}, {63547, 32896, 32896, 29183, 30266, 24966},
            {65535, 65535, 32896, 62308, 32768, 27030}, {65535, 65486, 32896, 62244, 32768, 27030}, {65535, 65472, 32896, 62234, 32768, 27030},
            {65535, 65409, 32896, 62153, 32768, 27030}, {40000, 32896, 0, 9254, 9598, 59954}, {40000, 32896, 1, 9254, 9598, 59946},
            {40000, 32896, 4, 9254, 9598, 59937}, {40000, 32896, 7, 9254, 9598, 59937}, {40000, 32896, 3079, 9254, 9598, 52061}};
        for (int[] d : due) {
            check.dueColour("to XYZ of " + d[0] + ", " + d[1] + ", " + d[2], x.after(1, 2, d[0], d[1], d[2]), d[3], d[4], d[5]);
        }
    }

    private static void scale() {
        check.says("7 SCALE from one WHITE a to another WHITE b: vi becomes CLIP(N(vi * ai / bi)).");
        ColourLinker x = Draft.with(check, Draft.plain().white(2, 1, 65535), Draft.plain().white(1, 2, 1), Draft.plain().white(0, 0, 1),
            Draft.plain().white(3, 3, 3));
        check.due("link", 0, x.link(0, 1, 3, false));
        check.due("pieces", 1, x.pieces(0));
        check.due("its kind", 7, x.piece(0, 0));
        check.dueColour("twice, half, 65535 times", x.convert(0, 32767, 1, 1), 65534, 1, 65535);
        check.dueColour("clipped from 65536, 3 / 2", x.convert(0, 32768, 3, 2), 65535, 2, 65535);
        check.dueColour("clipped from far", x.convert(0, 65535, 65535, 65535), 65535, 32768, 65535);
        check.dueColour("black", x.convert(0, 0, 0, 0), 0, 0, 0);
        check.due("from a WHITE with 0", 1, x.link(2, 3, 3, false));
        check.dueColour("0 times, and a third", x.convert(1, 65535, 65535, 65535), 0, 0, 21845);
        check.dueColour("a third of 1, of 2", x.convert(1, 1, 1, 1), 0, 0, 0);
        check.dueColour("a third of 2", x.convert(1, 1, 1, 2), 0, 0, 1);
    }

    /** Three channels in XYZ whose black level is the one told, and that stay else. */
    private static Draft darkest(int level) {
        return new Draft(2, 3, 0).entry(3, Draft.samples(level, 65535)).entry(2, 1, 0).shared(4, 2).entry(5, Draft.unit());
    }

    private static void black() {
        check.says("8 BLACK from one level a to another level b: vi becomes CLIP(Di - N((Di - vi) * (32768 - b) / (32768 - a))).");
        ColourLinker x = Draft.with(check, darkest(16384), darkest(0));
        x.link(0, 1, 0, true);
        check.due("its kind", 8, x.piece(0, 1));
        // the first piece makes N(16384 + 49151 * v1 / 65535) of v1
        check.dueColour("below 0", x.after(0, 2, 15797, 0, 13514), 0, 0, 0);
        check.dueColour("at and just over 0", x.after(0, 2, 15798, 1, 13516), 1, 2, 2);
        check.dueColour("over 65535", x.after(0, 2, 65535, 65535, 65535), 65535, 65535, 65535);
        // 31595 + 2 * 16970 = 65535, 27030 + 2 * 19252 = 65534
        check.dueColour("just 65535", x.after(0, 2, 48565, 65535, 46282), 65535, 65535, 65534);
        check.dueColour("65536 and more", x.after(0, 2, 48566, 65535, 46283), 65535, 65535, 65535);
    }

    private static void blackNextToWhite() {
        check.says("8 BLACK: .. (32768 - b) / (32768 - a), with a level of 32767");
        ColourLinker x = Draft.with(check, darkest(32767), darkest(0));
        check.due("from 32767", 0, x.link(0, 1, 0, true));
        check.dueColour("32768 times", x.after(0, 2, 31595, 0, 27030), 31595, 0, 27030);
        check.dueColour("32768 times, up and down", x.after(0, 2, 31596, 65535, 27029), 64363, 65535, 0);
        check.due("to 32767", 1, x.link(1, 0, 0, true));
        check.dueColour("a 32768th of D", x.after(1, 2, 0, 0, 0), 31594, 32767, 27029);
        check.dueColour("halves and less", x.after(1, 2, 15211, 16384, 10646), 31594, 32767, 27029);
        check.dueColour("just less than halves", x.after(1, 2, 15212, 16385, 10647), 31595, 32768, 27030);
        check.dueColour("halves below 0", x.after(1, 2, 47979, 49152, 43414), 31595, 32768, 27030);
        check.dueColour("just more than halves below 0", x.after(1, 2, 47980, 49153, 43415), 31596, 32769, 27031);
    }

    private static void gather() {
        check.says("9 GATHER: when the SPACE is XYZ, v0 becomes CLIP(N(65535 * v1 / 32768)); when it is LAB, v0 stays; v1 and v2 become 0.");
        ColourLinker x = Draft.with(check, Draft.plain(), Draft.gray(0), Draft.still(1), Draft.gray(1));
        x.link(0, 1, 0, false);
        int[][] pairs = {{0, 0}, {1, 2}, {16383, 32766}, {16384, 32768}, {16385, 32769}, {32767, 65533}, {32768, 65535}, {32769, 65535}, {65535, 65535}};
        for (int[] p : pairs) {
            check.dueColour("gather of " + p[0], x.convert(0, 7, p[0], 9), p[1], 0, 0);
        }
        x.link(2, 3, 0, false);
        check.dueColour("gather in LAB", x.convert(1, 0, 8, 9), 0, 0, 0);
        check.dueColour("gather in LAB of 65535", x.convert(1, 65535, 65535, 65535), 65535, 0, 0);
    }

    private static void dueBack(String what, int[] m, int[] v, int... want) {
        ColourLinker x = Draft.with(check, Draft.plain(), Draft.shapedBy(m));
        check.due(what + ", link", 0, x.link(0, 1, 0, false));
        check.due(what + ", kind", 10, x.piece(0, 0));
        check.dueColour(what, x.convert(0, v[0], v[1], v[2]), want[0], want[1], want[2]);
    }

    private static void matrixBack() {
        check.says("10 MATRIX BACK: vi becomes CLIP(N(xi))");
        int[] half = {8192, 0, 0, 0, 8192, 0, 0, 0, 8192};
        dueBack("halves", half, new int[] {1, 3, 65535}, 1, 2, 32768);
        // the determinant is below 0, so that both parts of a quotient are
        dueBack("halves with a determinant below 0", new int[] {8192, 0, 0, 0, 8192, 0, 0, 0, -4096}, new int[] {1, 3, 5}, 1, 2, 0);
        dueBack("crosswise with a determinant below 0", new int[] {0, 0, 8192, 0, 8192, 0, 8192, 0, 0}, new int[] {1, 3, 5}, 3, 2, 1);
        int[] twice = {2048, 0, 0, 0, 2048, 0, 0, 0, 2048};
        dueBack("65534 and 65536", twice, new int[] {32767, 32768, 65535}, 65534, 65535, 65535);
        int[] least = {256, 0, 0, 0, 256, 0, 0, 0, 256};
        dueBack("the least determinant", least, new int[] {4095, 4096, 1}, 65520, 65535, 16);
        int[] leastBelow = {256, 0, 0, 0, 256, 0, 0, 0, -256};
        dueBack("the greatest determinant below 0", leastBelow, new int[] {4095, 4096, 1}, 65520, 65535, 0);
    }

    private static void matrixBackExact() {
        check.says("10 MATRIX BACK: .. where x0, x1, x2 are the exact numbers with m(i,0) * x0 + m(i,1) * x1 + m(i,2) * x2 = 4096 * vi");
        int[] greatest = {32767, 32766, 32765, 32767, -32768, 32767, -32768, 32767, 32767};
        dueBack("the greatest numbers", greatest, new int[] {65535, 65535, 65535}, 0, 0, 8192);
        dueBack("the greatest numbers again", greatest, new int[] {65535, 1, 65535}, 0, 4096, 4096);
        int[] uneven = {-32768, -32768, -32768, -32768, 32767, 0, 32767, -32768, 1};
        dueBack("uneven numbers", uneven, new int[] {65535, 65535, 65535}, 0, 0, 65535);
        int[] near = {4096, 1, 0, 0, 4096, 1, 1, 0, 4096};
        dueBack("almost the unit", near, new int[] {65535, 65535, 65535}, 65519, 65519, 65519);
        // 65535 * 4096 / 4097 = 65519.004..; 2048 * 4096 / 4097 = 2047.5001..
        dueBack("just over a half", near, new int[] {2048, 2048, 2048}, 2048, 2048, 2048);
        dueBack("a determinant below 0", new int[] {1000, 0, 0, 0, -1000, 3000, 0, 3000, -1000}, new int[] {500, 250, 125}, 2048, 320, 448);
    }

    private static void curvesBack() {
        check.says("11 CURVES BACK: as 1, with the inverses of the curves.");
        ColourLinker x = Draft.with(check, Draft.still(1), Draft.gray(1, 10, 1000), Draft.plain(),
            new Draft(2, 3, 0).entry(2, Draft.samples(0, 1)).entry(3, Draft.samples(5, 65535)).entry(4, Draft.samples(0, 2)).entry(5, Draft.unit()));
        x.link(0, 1, 0, false);
        check.dueColour("below the least value", x.convert(0, 9, 0, 0), 0, 0, 0);
        check.dueColour("the least value", x.convert(0, 10, 0, 0), 0, 0, 0);
        check.dueColour("more than all values", x.convert(0, 1001, 5, 5), 65535, 0, 0);
        x.link(2, 3, 0, false);
        check.dueColour("three curves back at 0", x.convert(1, 0, 0, 0), 0, 0, 0);
        check.dueColour("three curves back at 1", x.convert(1, 1, 1, 1), 32768, 0, 16384);
        check.dueColour("three curves back, more than their values", x.convert(1, 2, 65535, 3), 65535, 65535, 65535);
    }

    private static void dueKinds(String what, Draft d, int... want) {
        ColourLinker x = Draft.with(check, d);
        check.due(what + ", link", 0, x.link(0, 0, 0, false));
        check.due(what + ", pieces", want.length, x.pieces(0));
        for (int k = 0; k < want.length; k++) {
            check.due(what + ", piece " + k, want[k], x.piece(0, k));
        }
    }

    private static void curvesLeftOut() {
        check.says("Pieces 1 and 11 are LEFT OUT wherever all their curves are SAMPLES with n = 0");
        dueKinds("one straight curve", Draft.gray(0), 4, 9);
        dueKinds("one curve of samples that changes nothing", Draft.gray(0, 0, 65535), 1, 4, 9, 11);
        dueKinds("one power that changes nothing", new Draft(2, 1, 1).entry(1, Draft.power(1, 0, 0)), 1, 4, 9, 11);
        dueKinds("one straight curve, RED bent", Draft.gray(0).entry(2, Draft.samples(1, 2)), 4, 9);
        for (int bent = 0; bent < 8; bent++) {
            Draft d = new Draft(2, 3, 0).entry(1, Draft.samples(0, 9));
            for (int s = 2; s <= 4; s++) {
                d.entry(s, (bent >> s - 2 & 1) == 1 ? Draft.samples(0, 65535) : Draft.samples());
            }
            d.entry(5, Draft.unit());
            if (bent == 0) {
                dueKinds("three straight curves", d);
            } else {
                dueKinds("bent curves " + bent, d, 1, 11);
            }
        }
    }

    private static void matrixLeftOut() {
        check.says("pieces 2 and 10 wherever m(0,0) = m(1,1) = m(2,2) = 4096 and all the other m are 0.");
        dueKinds("the unit", Draft.plain());
        for (int i = 0; i < 9; i++) {
            for (int by : new int[] {-1, 1, 4096}) {
                int[] m = {4096, 0, 0, 0, 4096, 0, 0, 0, 4096};
                m[i] += by;
                dueKinds("m number " + i + " more by " + by, Draft.shapedBy(m), 2, 10);
            }
        }
        dueKinds("the unit below 0", Draft.shapedBy(-4096, 0, 0, 0, -4096, 0, 0, 0, -4096), 2, 10);
        dueKinds("the unit with bent curves", new Draft(2, 3, 0).colours(Draft.samples(0, 1)).entry(5, Draft.unit()), 1, 11);
    }
}
