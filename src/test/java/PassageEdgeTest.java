/** The boundary cases of WAYS, of THE PASSAGE and of what it is refused for, a method for each sentence. */
public final class PassageEdgeTest {
    private static final Check check = new Check();

    public static void main(String[] args) {
        wayForth();
        wayBack();
        waysOfOneChannel();
        noWayBack();
        blackLevelOfIntent();
        blackLevelInLab();
        passages();
        scaleNeeded();
        whiteNotTold();
        blackNeeded();
        blackNotAsked();
        noIntent();
        oneWay();
        singular();
        singularOfNoUse();
        notRising();
        notRisingOfNoUse();
        noScaleForWhite();
        noScaleForBlack();
        orderOfRefusals();
        leftOutPiecesCount();
        check.end();
    }

    private static void dueKinds(String what, ColourLinker x, int l, int... want) {
        check.due(what + ", a link", true, l >= 0);
        check.due(what + ", pieces", want.length, x.pieces(l));
        for (int k = 0; k < want.length; k++) {
            check.due(what + ", piece " + k, want[k], x.piece(l, k));
        }
    }

    /** Grid s answers the colour (257 * s, 0, 0), so that the colour tells which one was taken. */
    private static Draft withGrids(Draft d, int set, int first) {
        for (int i = 0; i < 3; i++) {
            if ((set >> i & 1) == 1) {
                d.entry(first + i, Draft.flat(2, first + i, 0, 0));
            }
        }
        return d;
    }

    private static int gridFor(int set, int first, int intent) {
        int j = intent == 3 ? 1 : intent;
        return (set >> j & 1) == 1 ? first + j : (set & 1) == 1 ? first : 0;
    }

    private static void wayForth() {
        check.says("let j be the intent, but 1 for intent 3. The WAY FORTH ..: with three channels the GRID of its entry FORTHj if there is one, otherwise that of FORTH0 if there is one, otherwise CURVES, MATRIX.");
        for (int set = 0; set < 8; set++) {
            ColourLinker x = Draft.with(check, withGrids(Draft.shaped(), set, 6), Draft.gray(0));
            for (int intent = 0; intent <= 3; intent++) {
                int l = x.link(0, 1, intent, false);
                int s = gridFor(set, 6, intent);
                String what = "set " + set + ", intent " + intent;
                if (s == 0) {
                    dueKinds(what, x, l, 1, 2, 9);
                } else {
                    dueKinds(what, x, l, 3, 9);
                    check.dueColour(what, x.after(l, 1, 1, 2, 3), 257 * s, 0, 0);
                }
            }
        }
    }

    private static void wayBack() {
        check.says("The WAY BACK: .. with three channels the GRID of its entry BACKj if there is one, otherwise that of BACK0 if there is one, otherwise MATRIX BACK, CURVES BACK");
        for (int set = 0; set < 8; set++) {
            ColourLinker x = Draft.with(check, withGrids(Draft.shaped(), set, 9), Draft.gray(0));
            for (int intent = 0; intent <= 3; intent++) {
                int l = x.link(1, 0, intent, false);
                int s = gridFor(set, 9, intent);
                String what = "set " + set + ", intent " + intent;
                if (s == 0) {
                    dueKinds(what, x, l, 4, 10, 11);
                } else {
                    dueKinds(what, x, l, 4, 3);
                    check.dueColour(what, x.convert(l, 1, 2, 3), 257 * s, 0, 0);
                }
            }
        }
    }

    private static void waysOfOneChannel() {
        check.says("The WAY FORTH of a profile: with one channel CURVES, SPREAD .. The WAY BACK: with one channel GATHER, CURVES BACK");
        Draft d = new Draft(2, 1, 0).entry(1, Draft.samples(0, 9)).entry(5, Draft.unit()).shared(2, 1).shared(3, 1).shared(4, 1);
        withGrids(d, 3, 6);
        withGrids(d, 3, 9);
        ColourLinker x = Draft.with(check, d);
        for (int intent = 0; intent <= 3; intent++) {
            dueKinds("intent " + intent, x, x.link(0, 0, intent, false), 1, 4, 9, 11);
        }
    }

    private static void noWayBack() {
        check.says("The WAY BACK: .. MATRIX BACK, CURVES BACK when the SPACE is XYZ and there are entries RED, GREEN, BLUE and MATRIX; otherwise there is none. (NO_WAY, B has no way back)");
        for (int space = 0; space <= 1; space++) {
            for (int set = 0; set < 16; set++) {
                Draft d = new Draft(2, 3, space).entry(1, 1, 0).entry(6, Draft.still());
                for (int s = 2; s <= 4; s++) {
                    if ((set >> s - 2 & 1) == 1) {
                        d.shared(s, 1);
                    }
                }
                if ((set & 8) != 0) {
                    d.entry(5, Draft.unit());
                }
                ColourLinker x = Draft.with(check, Draft.gray(0), d);
                check.due("parse with BACK1", 2, d.shared(10, 6).parseInto(x));
                boolean way = space == 0 && set == 15;
                for (int intent = 0; intent <= 3; intent++) {
                    String what = "space " + space + ", set " + set + ", intent " + intent;
                    check.due(what, way ? intent : -4, x.link(0, 1, intent, false));
                }
                check.due("BACK1 alone and intent 0", way ? 4 : -4, x.link(0, 2, 0, false));
                check.due("BACK1 alone and intent 2", way ? 5 : -4, x.link(0, 2, 2, false));
                check.due("BACK1 alone and intent 1", way ? 6 : 0, x.link(0, 2, 1, false));
                check.due("BACK1 alone and intent 3", way ? 7 : 1, x.link(0, 2, 3, false));
            }
        }
    }

    private static void blackLevelOfIntent() {
        check.says("The BLACK LEVEL of a profile for an intent: (0, 0, 0) goes through its way forth ..; the black level is v1 then.");
        // black levels 257 * 4, 257 * 5, 257 * 5 of one profile and 257 * 4, 257 * 4, 257 * 5 of the other
        Draft one = new Draft(2, 3, 0).entry(6, Draft.flat(2, 9, 4, 9)).entry(7, Draft.flat(2, 9, 5, 9)).shared(8, 7).entry(9, Draft.still());
        Draft other = new Draft(2, 3, 0).entry(6, Draft.flat(2, 7, 4, 8)).entry(8, Draft.flat(2, 6, 5, 8)).entry(9, Draft.still());
        ColourLinker x = Draft.with(check, one, other);
        dueKinds("the same for intent 0", x, x.link(0, 1, 0, true), 3, 3);
        dueKinds("others for intent 1", x, x.link(0, 1, 1, true), 3, 8, 3);
        dueKinds("the same for intent 2", x, x.link(0, 1, 2, true), 3, 3);
        dueKinds("the other way round", x, x.link(1, 0, 1, true), 3, 8, 3);
        // from 1285 to 1028: 32768 - N((32768 - 1285) * 31740 / 31483) = 32768 - 31740
        check.due("v1 of the black colour", 1028, x.after(1, 2, 0, 0, 0) / 65536 % 65536);
        // (0, 0, 0) goes through the way forth of each intent, and not what came of it for another one
        ColourLinker z = Draft.with(check, darkest(257), new Draft(2, 3, 0).entry(6, Draft.flat(2, 9, 1, 9)).entry(9, Draft.still()));
        for (int intent = 0; intent < 3; intent++) {
            dueKinds("257 by a curve and by a grid, intent " + intent, z, z.link(0, 1, intent, true), 1, 3);
            dueKinds("257 by a grid and by a curve, intent " + intent, z, z.link(1, 0, intent, true), 3, 11);
        }
        // node (0, 0, 0) alone counts
        int[] g = Draft.flat(2, 200, 200, 200);
        g[3] = 4;
        ColourLinker y = Draft.with(check, new Draft(2, 3, 0).entry(6, g).entry(9, Draft.still()), other);
        dueKinds("one node alone", y, y.link(0, 1, 0, true), 3, 3);
    }

    private static void blackLevelInLab() {
        check.says("The BLACK LEVEL ..: .. and through TO XYZ when its SPACE is LAB");
        // TO XYZ makes 0 of (0, 32896, 32896), and 32768 of (65535, 32896, 32896)
        ColourLinker x = Draft.with(check, Draft.gray(1), Draft.gray(0), Draft.gray(1, 5247, 65535), Draft.gray(1, 65535, 65535),
            Draft.gray(1, 65530, 65535), darkest(291));
        dueKinds("0 in LAB and in XYZ", x, x.link(0, 1, 0, true), 4, 6, 9);
        dueKinds("291 in LAB, 0 in XYZ", x, x.link(2, 1, 0, true), 1, 4, 6, 8, 9);
        check.due("the black colour after it", 0, x.after(1, 4, 0, 0, 0) / 65536 % 65536);
        dueKinds("291 in LAB and in XYZ", x, x.link(2, 5, 0, true), 1, 4, 6, 11);
        check.due("32768 in LAB", -7, x.link(3, 1, 0, true));
        check.due("just less than 32768 in LAB", true, x.link(4, 1, 0, true) >= 0);
    }

    /** Three channels in XYZ whose black level is the one told; v0 and v2 stay. */
    private static Draft darkest(int level) {
        return new Draft(2, 3, 0).entry(3, Draft.samples(level, 65535)).entry(2, 1, 0).shared(4, 2).entry(5, Draft.unit());
    }

    private static void passages() {
        check.says("THE PASSAGE ..: the way forth of A; then, if it is NEEDED, a piece S, with TO XYZ before it when the SPACE of A is LAB; then TO LAB or TO XYZ, if the SPACE reached so far is not that of B; then the way back of B.");
        int[] bent = {0, 65535};
        ColourLinker x = Draft.with(check, Draft.gray(0, bent), Draft.gray(1, bent),
            Draft.gray(0, 3000, 65535).white(1, 2, 3), Draft.gray(1, 9000, 65535).white(1, 2, 3));
        dueKinds("XYZ to XYZ", x, x.link(0, 0, 1, true), 1, 4, 9, 11);
        dueKinds("XYZ to LAB", x, x.link(0, 1, 1, true), 1, 4, 5, 9, 11);
        dueKinds("LAB to XYZ", x, x.link(1, 0, 1, true), 1, 4, 6, 9, 11);
        dueKinds("LAB to LAB", x, x.link(1, 1, 1, true), 1, 4, 9, 11);
        dueKinds("XYZ to XYZ, SCALE", x, x.link(0, 2, 3, true), 1, 4, 7, 9, 11);
        dueKinds("XYZ to LAB, SCALE", x, x.link(0, 3, 3, true), 1, 4, 7, 5, 9, 11);
        dueKinds("LAB to XYZ, SCALE", x, x.link(1, 2, 3, true), 1, 4, 6, 7, 9, 11);
        dueKinds("LAB to LAB, SCALE", x, x.link(1, 3, 3, true), 1, 4, 6, 7, 5, 9, 11);
        dueKinds("XYZ to XYZ, BLACK", x, x.link(0, 2, 2, true), 1, 4, 8, 9, 11);
        dueKinds("XYZ to LAB, BLACK", x, x.link(0, 3, 2, true), 1, 4, 8, 5, 9, 11);
        dueKinds("LAB to XYZ, BLACK", x, x.link(1, 2, 2, true), 1, 4, 6, 8, 9, 11);
        dueKinds("LAB to LAB, BLACK", x, x.link(1, 3, 2, true), 1, 4, 6, 8, 5, 9, 11);
    }

    private static void scaleNeeded() {
        check.says("S is needed with intent 3 when the WHITEs of A and B are not the same in all three words");
        int[][] whites = {{101, 200, 300}, {100, 201, 300}, {100, 200, 301}, {100, 200, 300}};
        Draft[] drafts = new Draft[5];
        drafts[0] = Draft.plain().white(100, 200, 300);
        for (int i = 0; i < 4; i++) {
            drafts[i + 1] = Draft.plain().white(whites[i][0], whites[i][1], whites[i][2]);
        }
        ColourLinker x = Draft.with(check, drafts);
        for (int i = 0; i < 3; i++) {
            dueKinds("word " + i + " differs", x, x.link(0, i + 1, 3, false), 7);
            dueKinds("word " + i + " differs, the other way", x, x.link(i + 1, 0, 3, true), 7);
        }
        dueKinds("no word differs", x, x.link(0, 4, 3, true));
        for (int intent = 0; intent < 3; intent++) {
            dueKinds("words differ, intent " + intent, x, x.link(0, 1, intent, true));
        }
    }

    private static void whiteNotTold() {
        check.says("The WHITE of a profile is its POINT, D when it has none.");
        ColourLinker x = Draft.with(check, Draft.plain(), Draft.plain().white(31595, 32768, 27030), Draft.plain().white(0, 0, 0),
            Draft.plain().white(31596, 32768, 27030));
        dueKinds("none to D", x, x.link(0, 1, 3, false));
        dueKinds("D to none", x, x.link(1, 0, 3, false));
        dueKinds("none to none", x, x.link(0, 0, 3, false));
        dueKinds("nearly D to none", x, x.link(3, 0, 3, false), 7);
        dueKinds("0 to none", x, x.link(2, 0, 3, false), 7);
        check.due("none to 0", -7, x.link(0, 2, 3, false));
        // 65535 * 31596 / 31595 is clipped, 31595 * 31596 / 31595 is 31596
        check.dueColour("nearly D to none", x.convert(3, 31595, 32768, 65535), 31596, 32768, 65535);
    }

    private static void blackNeeded() {
        check.says("S is needed .. when compensation is asked for and the black levels of A and B for the intent differ");
        ColourLinker x = Draft.with(check, darkest(100), darkest(101), darkest(100).white(1, 2, 3), darkest(0));
        for (int intent = 0; intent < 3; intent++) {
            dueKinds("they differ by 1", x, x.link(0, 1, intent, true), 1, 8, 11);
            dueKinds("they are the same", x, x.link(0, 2, intent, true), 1, 11);
        }
        dueKinds("with itself", x, x.link(3, 3, 0, true), 1, 11);
        dueKinds("from 100 to 0", x, x.link(0, 3, 0, true), 1, 8, 11);
        dueKinds("from 0 to 100", x, x.link(3, 0, 0, true), 1, 8, 11);
    }

    private static void blackNotAsked() {
        check.says("black point compensation asked for or not (it counts as not asked for with intent 3)");
        ColourLinker x = Draft.with(check, darkest(100), darkest(9000), darkest(40000));
        for (int intent = 0; intent < 3; intent++) {
            dueKinds("not asked for", x, x.link(0, 1, intent, false), 1, 11);
            check.due("not asked for, to 40000", true, x.link(0, 2, intent, false) >= 0);
            check.due("asked for, to 40000", -7, x.link(0, 2, intent, true));
        }
        dueKinds("intent 3", x, x.link(0, 1, 3, true), 1, 11);
        check.due("intent 3, to 40000", true, x.link(0, 2, 3, true) >= 0);
    }

    private static void noIntent() {
        check.says("NO_INTENT, the intent is not 0 .. 3");
        ColourLinker x = Draft.with(check, Draft.gray(0));
        for (int intent : new int[] {-1, 4, 5, 256, Integer.MIN_VALUE, Integer.MAX_VALUE}) {
            check.due("link with intent " + intent, -2, x.link(0, 0, intent, false));
            check.due("link with intent " + intent + " and black", -2, x.link(0, 0, intent, true));
        }
        for (int intent = 0; intent <= 3; intent++) {
            check.due("link with intent " + intent, intent, x.link(0, 0, intent, false));
        }
        check.due("extend with intent -1", -2, x.extend(0, 0, -1, false));
        check.due("extend with intent 4", -2, x.extend(0, 0, 4, true));
    }

    private static void oneWay() {
        check.says("ONE_WAY, B is of CLASS 1");
        ColourLinker x = Draft.with(check, new Draft(1, 1, 0).entry(1, 1, 0), Draft.gray(0), new Draft(1, 3, 0).entry(6, Draft.still()).shared(9, 6));
        check.due("to CLASS 1", -3, x.link(1, 0, 0, false));
        check.due("to CLASS 1 with a grid back", -3, x.link(1, 2, 0, false));
        check.due("CLASS 1 to itself", -3, x.link(0, 0, 3, true));
        check.due("from CLASS 1", 0, x.link(0, 1, 0, false));
        check.due("from CLASS 1 with a grid", 1, x.link(2, 1, 0, false));
        check.due("CLASS 2 to itself", 2, x.link(1, 1, 0, false));
        check.due("extend to CLASS 1", -3, x.extend(0, 0, 0, false));
    }

    private static int linkTo(int... m) {
        ColourLinker x = Draft.with(check, Draft.gray(0), Draft.shapedBy(m));
        return x.link(0, 1, 0, false);
    }

    private static void singular() {
        check.says("SINGULAR, B's way back would have MATRIX BACK, and the determinant of the nine m is more than -16777216 and less than 16777216");
        check.due("16777216", 0, linkTo(4096, 0, 0, 0, 4096, 0, 0, 0, 1));
        check.due("16777215", -5, linkTo(4095, 0, 0, 0, 4097, 0, 0, 0, 1));
        check.due("-16777216", 0, linkTo(-4096, 0, 0, 0, 4096, 0, 0, 0, 1));
        check.due("-16777215", -5, linkTo(4095, 0, 0, 0, 4097, 0, 0, 0, -1));
        check.due("0", -5, linkTo(0, 0, 0, 0, 0, 0, 0, 0, 0));
        check.due("1", -5, linkTo(1, 0, 0, 0, 1, 0, 0, 0, 1));
        check.due("-1", -5, linkTo(0, 1, 0, 1, 0, 0, 0, 0, 1));
        // each of the six products alone, 256 * 256 * 256 with its sign
        int[][] orders = {{0, 4, 8}, {0, 5, 7}, {1, 3, 8}, {1, 5, 6}, {2, 3, 7}, {2, 4, 6}};
        for (int[] o : orders) {
            int[] m = new int[9];
            m[o[0]] = 256;
            m[o[1]] = 256;
            m[o[2]] = 256;
            check.due("product of " + o[0] + ", " + o[1] + ", " + o[2], 0, linkTo(m));
            m[o[1]] = 255;
            check.due("less than it", -5, linkTo(m));
            m[o[1]] = -256;
            check.due("less 0 by it", 0, linkTo(m));
            m[o[1]] = -255;
            check.due("less 0 by less than it", -5, linkTo(m));
        }
        check.due("great numbers that make 0", -5, linkTo(32767, -32768, 1, 32767, -32768, 1, 5, 6, 7));
        check.due("great numbers", 0, linkTo(-32768, 32767, -32768, -32768, -32768, 32767, 32767, -32768, -32768));
        // (1 - 4096 * 4096) * 1, with two products
        check.due("two products, -16777215", -5, linkTo(1, 4096, 0, 4096, 1, 0, 0, 0, 1));
        check.due("two products, -16777216", 0, linkTo(0, 4096, 0, 4096, 1, 0, 0, 0, 1));
    }

    private static void singularOfNoUse() {
        check.says("SINGULAR, B's way back would have MATRIX BACK");
        Draft b = Draft.shapedBy(new int[9]).entry(10, Draft.still());
        ColourLinker x = Draft.with(check, Draft.gray(0), b, new Draft(2, 1, 0).entry(1, 1, 0).entry(5, Draft.matrix(new int[9])));
        check.due("a grid back for intent 1", 0, x.link(0, 1, 1, false));
        check.due("a grid back for intent 3", 1, x.link(0, 1, 3, false));
        check.due("none for intent 0", -5, x.link(0, 1, 0, false));
        check.due("none for intent 2", -5, x.link(0, 1, 2, false));
        check.due("from such a one", 2, x.link(1, 0, 0, false));
        check.due("a matrix beside one channel", 3, x.link(0, 2, 0, false));
    }

    private static void notRising() {
        check.says("NOT_RISING, it would have CURVES BACK, and one of those curves is not rising");
        for (int falling = 0; falling < 8; falling++) {
            Draft d = new Draft(2, 3, 0).entry(1, Draft.samples(2, 1));
            for (int s = 2; s <= 4; s++) {
                d.entry(s, (falling >> s - 2 & 1) == 1 ? Draft.samples(5, 5) : Draft.samples(5, 6));
            }
            ColourLinker x = Draft.with(check, Draft.gray(0), d.entry(5, Draft.unit()));
            check.due("curves " + falling + " are not rising", falling == 0 ? 0 : -6, x.link(0, 1, 0, false));
        }
        ColourLinker y = Draft.with(check, Draft.gray(0, 5, 5), Draft.gray(0).entry(2, Draft.samples(5, 5)));
        check.due("GRAY is not rising", -6, y.link(1, 0, 0, false));
        check.due("RED is not rising, with one channel", 0, y.link(1, 1, 0, false));
    }

    private static void notRisingOfNoUse() {
        check.says("NOT_RISING, it would have CURVES BACK");
        Draft b = new Draft(2, 3, 0).colours(Draft.samples(9, 8)).entry(5, Draft.unit()).entry(11, Draft.still());
        ColourLinker x = Draft.with(check, Draft.gray(0), b);
        check.due("a grid back for intent 2", 0, x.link(0, 1, 2, false));
        check.due("none for intent 1", -6, x.link(0, 1, 1, false));
        check.due("none for intent 3", -6, x.link(0, 1, 3, false));
        check.due("from such a one", 1, x.link(1, 0, 1, false));
    }

    private static void noScaleForWhite() {
        check.says("NO_SCALE, SCALE is needed and a word of B's WHITE is 0");
        ColourLinker x = Draft.with(check, Draft.plain(), Draft.plain().white(0, 32768, 27030), Draft.plain().white(31595, 0, 27030),
            Draft.plain().white(31595, 32768, 0), Draft.plain().white(0, 32768, 27030), Draft.plain().white(1, 1, 1));
        for (int b = 1; b <= 3; b++) {
            check.due("word " + (b - 1) + " is 0", -7, x.link(0, b, 3, false));
            check.due("word " + (b - 1) + " is 0, black asked for", -7, x.link(0, b, 3, true));
        }
        check.due("words that are 1", 0, x.link(0, 5, 3, false));
        check.due("the same WHITE with 0, so SCALE is not needed", 1, x.link(1, 4, 3, false));
        check.due("with itself", 2, x.link(2, 2, 3, false));
        check.due("0 in both, but not the same", -7, x.link(1, 2, 3, false));
        check.due("a word of A's WHITE is 0", 3, x.link(1, 0, 3, false));
        check.due("another intent", 4, x.link(0, 1, 1, false));
        check.due("another intent, black asked for", 5, x.link(0, 1, 1, true));
        check.due("extend", -7, x.extend(0, 1, 3, false));
    }

    private static void noScaleForBlack() {
        check.says("NO_SCALE, .. compensation is asked for and the black level of A or of B is 32768 or more.");
        ColourLinker x = Draft.with(check, darkest(0), darkest(32767), darkest(32768), darkest(65534), darkest(32768));
        check.due("from 32767", 0, x.link(1, 0, 0, true));
        check.due("to 32767", 1, x.link(0, 1, 0, true));
        check.due("from 32767 to 32767", 2, x.link(1, 1, 0, true));
        check.due("from 32768", -7, x.link(2, 0, 0, true));
        check.due("to 32768", -7, x.link(0, 2, 0, true));
        for (int intent = 1; intent < 3; intent++) {
            check.due("from 32768, intent " + intent, -7, x.link(2, 0, intent, true));
            check.due("to 32768, intent " + intent, -7, x.link(0, 2, intent, true));
        }
        check.due("from 65534", -7, x.link(3, 0, 1, true));
        check.due("to 65534", -7, x.link(0, 3, 2, true));
        check.due("from 32768 to 32768", -7, x.link(2, 4, 0, true));
        check.due("32768 with itself", -7, x.link(2, 2, 0, true));
        check.due("not asked for", 3, x.link(2, 3, 0, false));
        check.due("asked for with intent 3", 4, x.link(2, 3, 3, true));
        check.due("extend from 65534 to 0", -7, x.extend(3, 0, 0, true));
        check.due("extend from 65534 to 0, not asked for", 5, x.extend(3, 0, 0, false));
        for (int intent = 1; intent < 3; intent++) {
            check.due("from 32767, intent " + intent, 4 + 2 * intent, x.link(1, 0, intent, true));
            check.due("to 32767, intent " + intent, 5 + 2 * intent, x.link(0, 1, intent, true));
        }
    }

    private static void orderOfRefusals() {
        check.says("A passage is REFUSED for the first of these that holds");
        int[] flat = Draft.samples(65535, 65535);
        int[] none = Draft.matrix(new int[9]);
        Draft source = new Draft(1, 3, 0).colours(flat).entry(5, none).white(0, 0, 0);
        Draft sourceWithoutWay = new Draft(1, 3, 0).entry(6, Draft.flat(2, 255, 255, 255)).white(0, 0, 0);
        Draft withoutWay = new Draft(2, 3, 0).entry(6, Draft.flat(2, 255, 255, 255)).white(0, 0, 0);
        Draft singularToo = new Draft(2, 3, 0).colours(flat).entry(5, none).white(0, 0, 0);
        Draft fallingToo = new Draft(2, 3, 0).colours(flat).entry(5, Draft.unit()).white(0, 0, 0);
        Draft lightToo = new Draft(2, 3, 0).entry(6, Draft.flat(2, 255, 255, 255)).shared(9, 6).white(0, 0, 0);
        Draft[] targets = {source, sourceWithoutWay, withoutWay, singularToo, fallingToo, lightToo};
        int[] want = {-3, -3, -4, -5, -6, -7};
        for (int b = 0; b < targets.length; b++) {
            ColourLinker x = Draft.with(check, Draft.plain(), targets[b]);
            check.due("target " + b + " with intent 4", -2, x.link(0, 1, 4, true));
            check.due("target " + b + " with intent -1", -2, x.link(0, 1, -1, false));
            check.due("target " + b + " with intent 3", want[b], x.link(0, 1, 3, false));
            check.due("target " + b + " with intent 0 and black", want[b], x.link(0, 1, 0, true));
            check.due("target " + b + " with itself", b == 5 ? 0 : want[b], x.link(1, 1, 3, false));
        }
        // singular, with curves that rise, and no white or black that is 0
        ColourLinker y = Draft.with(check, Draft.plain(), new Draft(2, 3, 0).colours(1, 0).entry(5, none).white(0, 1, 1),
            new Draft(2, 3, 0).colours(flat).entry(5, Draft.unit()));
        check.due("SINGULAR before NO_SCALE", -5, y.link(0, 1, 3, false));
        check.due("NOT_RISING before NO_SCALE for black", -6, y.link(0, 2, 0, true));
    }

    private static void leftOutPiecesCount() {
        check.says("(Left out pieces count here like others.)");
        ColourLinker x = Draft.with(check, Draft.plain(), Draft.gray(0));
        check.due("a way back of left out pieces is a way", 0, x.link(1, 0, 0, false));
        dueKinds("it has no pieces", x, 0, 4);
        check.due("both ways of left out pieces", 1, x.link(0, 0, 0, true));
        dueKinds("they have none", x, 1);
        // straight curves with a singular matrix, and the unit with falling curves
        ColourLinker y = Draft.with(check, Draft.plain(), Draft.shapedBy(new int[9]),
            new Draft(2, 3, 0).colours(Draft.samples(1, 0)).entry(5, Draft.unit()));
        check.due("straight curves, singular", -5, y.link(0, 1, 0, false));
        check.due("the unit, not rising", -6, y.link(0, 2, 0, false));
    }
}
