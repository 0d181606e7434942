/** The boundary cases of LINKS and of promises 13 to 17, a method for each sentence. */
public final class LinkEdgeTest {
    private static final Check check = new Check();
    private static final int LEAST = Integer.MIN_VALUE;
    private static final int GREATEST = Integer.MAX_VALUE;

    public static void main(String[] args) {
        linkMissing();
        linkOfTheSameOne();
        linkAgain();
        linkAgainWithIntent3();
        linkIsNotFoundForExtend();
        linkFull();
        extendMissing();
        extendPieces();
        extendFirstProfile();
        extendLastProfile();
        extendAgain();
        extendRefusedFirst();
        extendLong();
        longBeforeFull();
        extendFull();
        numbers();
        pieces();
        piece();
        check.end();
    }

    private static Draft bent(int space) {
        return Draft.gray(space, 0, 65535);
    }

    private static void linkMissing() {
        check.says("link: MISSING when one of them is not there (whatever the intent is)");
        ColourLinker x = Draft.with(check, Draft.gray(0), new Draft(1, 1, 0).entry(1, 1, 0));
        for (int p : new int[] {-1, 2, 5, 6, LEAST, GREATEST}) {
            for (int intent : new int[] {0, 3, 4, -1, LEAST, GREATEST}) {
                check.due("link(" + p + ", 0, " + intent + ")", -1, x.link(p, 0, intent, true));
                check.due("link(0, " + p + ", " + intent + ")", -1, x.link(0, p, intent, false));
                check.due("link(" + p + ", " + p + ", " + intent + ")", -1, x.link(p, p, intent, false));
                check.due("link(" + p + ", 1, " + intent + ")", -1, x.link(p, 1, intent, false));
            }
        }
        check.due("links", 0, x.links());
    }

    private static void linkOfTheSameOne() {
        check.says("link: the passage from profile from to profile to (which may be the same one)");
        ColourLinker x = Draft.with(check, bent(0), bent(1));
        check.due("0 to 0", 0, x.link(0, 0, 0, false));
        check.due("1 to 1", 1, x.link(1, 1, 0, true));
        check.due("pieces", 4, x.pieces(0));
        check.dueColour("convert", x.convert(1, 12345, 0, 0), 12345, 0, 0);
    }

    private static void linkAgain() {
        check.says("link: if a link was made by link() with the same from, to and intent, and compensation asked for as now .., that link's number, and no other link is made");
        ColourLinker x = Draft.with(check, Draft.gray(0), Draft.gray(0));
        int made = 0;
        for (int round = 0; round < 2; round++) {
            for (int i = 0; i < 12; i++) {
                int want = i;
                int got = x.link(i % 2, 1, i / 2 % 3, i / 6 == 1);
                check.due("link number " + i + ", round " + round, want, got);
                made = Math.max(made, i + 1);
                check.due("links", round == 0 ? i + 1 : 12, x.links());
            }
        }
        check.due("another to", 12, x.link(1, 0, 0, false));
        check.due("another from", 13, x.link(0, 0, 0, false));
        check.due("the first one again", 0, x.link(0, 1, 0, false));
    }

    private static void linkAgainWithIntent3() {
        check.says("link: .. compensation asked for as now (never with intent 3, so black makes no difference there)");
        ColourLinker x = Draft.with(check, Draft.gray(0));
        check.due("intent 3 with black", 0, x.link(0, 0, 3, true));
        check.due("intent 3 without black", 0, x.link(0, 0, 3, false));
        check.due("intent 3 with black again", 0, x.link(0, 0, 3, true));
        check.due("links", 1, x.links());
        ColourLinker y = Draft.with(check, Draft.gray(0));
        check.due("intent 3 without black", 0, y.link(0, 0, 3, false));
        check.due("intent 3 with black", 0, y.link(0, 0, 3, true));
        // with another intent it does, also when the two have the same pieces
        check.due("intent 2 without black", 1, y.link(0, 0, 2, false));
        check.due("intent 2 with black", 2, y.link(0, 0, 2, true));
        check.due("intent 1 with black", 3, y.link(0, 0, 1, true));
        check.due("intent 1 without black", 4, y.link(0, 0, 1, false));
    }

    private static void linkIsNotFoundForExtend() {
        check.says("link: if a link was made by link() ..; extend: if a link was made by extend() with the same l, to and intent");
        ColourLinker x = Draft.with(check, Draft.plain());
        // all of them have no piece at all, and still are links of their own
        check.due("link", 0, x.link(0, 0, 0, false));
        check.due("extend of the same passage", 1, x.extend(0, 0, 0, false));
        check.due("link again", 0, x.link(0, 0, 0, false));
        check.due("extend again", 1, x.extend(0, 0, 0, false));
        check.due("extend of the extended one", 2, x.extend(1, 0, 0, false));
        check.due("extend of the extended one again", 2, x.extend(1, 0, 0, false));
        check.due("extend with an intent", 3, x.extend(0, 0, 1, false));
        check.due("link with an intent that extend had", 4, x.link(0, 0, 1, false));
        check.due("extend of another link", 5, x.extend(4, 0, 1, false));
        check.due("links", 6, x.links());
    }

    /** Sixteen links among two profiles. */
    private static ColourLinker sixteen(Draft... more) {
        Draft[] drafts = new Draft[2 + more.length];
        drafts[0] = Draft.gray(0);
        drafts[1] = Draft.gray(1);
        System.arraycopy(more, 0, drafts, 2, more.length);
        ColourLinker x = Draft.with(check, drafts);
        for (int i = 0; i < 16; i++) {
            check.due("link " + i, i, x.link(i / 8, i / 4 % 2, i % 4, false));
        }
        return x;
    }

    private static void linkFull() {
        check.says("link: .. then LONG; then FULL. (FULL: sixteen links are there already)");
        ColourLinker x = sixteen(Draft.gray(0), new Draft(1, 1, 0).entry(1, 1, 0), new Draft(2, 3, 0).entry(6, Draft.still()));
        check.due("links", 16, x.links());
        check.due("a seventeenth", -8, x.link(2, 0, 0, false));
        check.due("a seventeenth with black", -8, x.link(0, 0, 0, true));
        check.due("links after it", 16, x.links());
        for (int i = 0; i < 16; i++) {
            check.due("link " + i + " again", i, x.link(i / 8, i / 4 % 2, i % 4, false));
        }
        check.due("intent 3 again with black", 3, x.link(0, 0, 3, true));
        check.due("a missing one before FULL", -1, x.link(5, 0, 0, false));
        check.due("NO_INTENT before FULL", -2, x.link(2, 0, 4, false));
        check.due("ONE_WAY before FULL", -3, x.link(2, 3, 0, false));
        check.due("NO_WAY before FULL", -4, x.link(2, 4, 0, false));
        check.dueColour("convert by the last", x.convert(15, 99, 0, 0), 99, 0, 0);
        check.due("pieces of link 16", -1, x.pieces(16));
    }

    private static void extendMissing() {
        check.says("extend: MISSING when there is no link l or no profile to");
        ColourLinker x = Draft.with(check, Draft.gray(0));
        check.due("extend without links", -1, x.extend(0, 0, 0, false));
        x.link(0, 0, 0, false);
        for (int n : new int[] {-1, 1, 6, 15, 16, LEAST, GREATEST}) {
            for (int intent : new int[] {0, 3, 4, -1}) {
                check.due("extend(" + n + ", 0, " + intent + ")", -1, x.extend(n, 0, intent, false));
                check.due("extend(0, " + n + ", " + intent + ")", -1, x.extend(0, n, intent, true));
                check.due("extend(" + n + ", " + n + ", " + intent + ")", -1, x.extend(n, n, intent, true));
            }
        }
        check.due("links", 1, x.links());
    }

    private static void dueKinds(String what, ColourLinker x, int l, int... want) {
        check.due(what + ", pieces", want.length, x.pieces(l));
        for (int k = 0; k < want.length; k++) {
            check.due(what + ", piece " + k, want[k], x.piece(l, k));
        }
    }

    private static void extendPieces() {
        check.says("extend: Makes a link of the pieces of link l (made by link() or extend()) and, behind them, the passage .. Link l stays.");
        ColourLinker x = Draft.with(check, Draft.gray(0), bent(1), Draft.plain());
        check.due("link", 0, x.link(0, 1, 0, false));
        check.due("extend", 1, x.extend(0, 0, 0, false));
        check.due("extend of the extended one", 2, x.extend(1, 1, 0, false));
        check.due("extend without a piece of its own", 3, x.extend(2, 2, 0, false));
        dueKinds("link 0", x, 0, 4, 5, 9, 11);
        dueKinds("link 1", x, 1, 4, 5, 9, 11, 1, 4, 6, 9);
        dueKinds("link 2", x, 2, 4, 5, 9, 11, 1, 4, 6, 9, 4, 5, 9, 11);
        dueKinds("link 3", x, 3, 4, 5, 9, 11, 1, 4, 6, 9, 4, 5, 9, 11, 1, 4, 6);
        ColourLinker y = Draft.with(check, Draft.plain(), Draft.gray(0));
        check.due("a link without pieces", 0, y.link(0, 0, 0, false));
        check.due("extend of it", 1, y.extend(0, 1, 0, false));
        dueKinds("the extended one", y, 1, 9);
        dueKinds("the one without pieces", y, 0);
    }

    private static void extendFirstProfile() {
        check.says("extend: .. its first profile is that of link l.");
        ColourLinker x = Draft.with(check, Draft.gray(0), Draft.plain());
        x.link(0, 1, 0, false);
        x.link(1, 0, 0, false);
        check.due("one channel first", 2, x.extend(0, 1, 0, false));
        check.due("three channels first", 3, x.extend(1, 0, 0, false));
        check.due("one channel first, twice extended", 4, x.extend(2, 1, 0, false));
        check.due("three channels first, twice extended", 5, x.extend(3, 0, 0, false));
        check.dueColour("one channel: b and c are not looked at", x.convert(2, 65535, -1, 65536), 31595, 32768, 27030);
        check.dueColour("one channel, twice extended", x.convert(4, 65535, -1, 65536), 31595, 32768, 27030);
        check.due("three channels: b is looked at", -1, x.convert(3, 0, -1, 0));
        check.due("three channels: c is looked at", -1, x.convert(3, 0, 0, 65536));
        check.due("three channels, twice extended", -1, x.convert(5, 0, 0, 65536));
    }

    private static void extendLastProfile() {
        check.says("extend: .. the passage from the last profile of link l to profile to");
        // the black level and the WHITE of the last profile count, not those of the first
        ColourLinker x = Draft.with(check, Draft.gray(0), Draft.gray(0, 3000, 65535).white(1, 2, 3), Draft.gray(0).white(1, 2, 3));
        check.due("link", 0, x.link(0, 1, 0, false));
        check.due("back to black", 1, x.extend(0, 0, 0, true));
        dueKinds("back to black", x, 1, 4, 9, 11, 1, 4, 8, 9);
        check.due("to another black", 2, x.extend(1, 2, 1, true));
        dueKinds("to the same black", x, 2, 4, 9, 11, 1, 4, 8, 9, 4, 9);
        check.due("to the same white", 3, x.extend(0, 2, 3, false));
        dueKinds("to the same white", x, 3, 4, 9, 11, 1, 4, 9);
        check.due("to another white", 4, x.extend(3, 0, 3, false));
        dueKinds("to another white", x, 4, 4, 9, 11, 1, 4, 9, 4, 7, 9);
        check.due("the first is the last", 5, x.extend(0, 1, 3, false));
        dueKinds("the first is the last", x, 5, 4, 9, 11, 1, 4, 9, 11);
    }

    private static void extendAgain() {
        check.says("extend: if a link was made by extend() with the same l, to and intent, and compensation asked for as now (never with intent 3), that link's number");
        ColourLinker x = Draft.with(check, Draft.plain(), Draft.plain());
        check.due("link", 0, x.link(0, 0, 0, false));
        int[][] calls = {{0, 0, 0, 0}, {0, 0, 0, 1}, {0, 0, 1, 0}, {0, 1, 0, 0}, {0, 0, 3, 1}, {1, 0, 0, 0}, {1, 0, 0, 1}, {2, 0, 0, 0}};
        for (int round = 0; round < 2; round++) {
            for (int i = 0; i < calls.length; i++) {
                int[] c = calls[i];
                check.due("extend " + i + ", round " + round, i + 1, x.extend(c[0], c[1], c[2], c[3] == 1));
            }
        }
        check.due("intent 3 without black", 5, x.extend(0, 0, 3, false));
        check.due("links", 9, x.links());
    }

    private static void extendRefusedFirst() {
        check.says("extend: Answers as link() does: MISSING ..; then what the passage is refused for; then .. that link's number; then LONG; then FULL.");
        ColourLinker x = Draft.with(check, Draft.plain(), new Draft(1, 1, 0).entry(1, 1, 0), new Draft(2, 3, 0).entry(6, Draft.still()),
            Draft.shapedBy(new int[9]), Draft.gray(0, 5, 5), Draft.plain().white(1, 1, 0));
        x.link(0, 0, 0, false);
        int[] want = {-3, -4, -5, -6, -7};
        for (int b = 1; b <= 5; b++) {
            check.due("extend to " + b, want[b - 1], x.extend(0, b, 3, false));
            check.due("extend to " + b + " with intent 4", -2, x.extend(0, b, 4, false));
        }
        check.due("links", 1, x.links());
        for (int i = 1; i < 16; i++) {
            check.due("links up to sixteen", i, x.extend(i - 1, 0, 0, false));
        }
        for (int b = 1; b <= 5; b++) {
            check.due("extend to " + b + " when full", want[b - 1], x.extend(0, b, 3, false));
        }
        check.due("extend with intent 4 when full", -2, x.extend(0, 0, 4, false));
        check.due("extend of no link when full", -1, x.extend(16, 0, 0, false));
        check.due("extend when full", -8, x.extend(15, 0, 0, false));
    }

    /** Links 0 .. 5 with 4, 8, 12, 16, 20, 24 pieces, to profile 0. */
    private static ColourLinker long24() {
        ColourLinker x = Draft.with(check, bent(0), Draft.gray(0), Draft.plain(), bent(1),
            new Draft(1, 1, 0).entry(1, 1, 0));
        check.due("link", 0, x.link(0, 0, 0, false));
        for (int i = 1; i < 6; i++) {
            check.due("extend", i, x.extend(i - 1, 0, 0, false));
        }
        return x;
    }

    private static void extendLong() {
        check.says("A LINK is a list of at most 24 pieces (LONG: A link would have more than 24 pieces.)");
        ColourLinker x = long24();
        check.due("pieces", 24, x.pieces(5));
        check.due("24 and 4", -9, x.extend(5, 0, 0, false));
        check.due("24 and 2", -9, x.extend(5, 2, 0, false));
        check.due("20 and 5", -9, x.extend(4, 3, 0, false));
        check.due("20 and 4, which is there", 5, x.extend(4, 0, 0, false));
        check.due("20 and 4 with another intent", 6, x.extend(4, 0, 1, false));
        check.due("20 and 3", 7, x.extend(4, 1, 0, false));
        check.due("23 and 2", -9, x.extend(7, 1, 0, false));
        check.due("23 and 1", 8, x.extend(7, 2, 0, false));
        check.due("24 and 0", 9, x.extend(8, 2, 0, false));
        check.due("pieces", 24, x.pieces(9));
        check.due("24 and 1", -9, x.extend(9, 1, 0, false));
        check.due("24 and a wrong intent", -2, x.extend(5, 0, 4, false));
        check.due("24 and a source alone", -3, x.extend(5, 4, 0, false));
        check.due("24 and no profile", -1, x.extend(5, 5, 0, false));
        check.due("links", 10, x.links());
        check.dueColour("all 24 pieces", x.convert(5, 65535, 0, 0), 65535, 0, 0);
        check.due("work", 24, x.work());
    }

    private static void longBeforeFull() {
        check.says("then LONG; then FULL.");
        ColourLinker x = long24();
        check.due("20 and 3", 6, x.extend(4, 1, 0, false));
        for (int i = 7; i < 16; i++) {
            check.due("links up to sixteen", i, x.link(1 + i % 2, i / 8, (i / 2) % 4, false));
        }
        check.due("24 and 4 when full", -9, x.extend(5, 0, 0, false));
        check.due("23 and 2 when full", -9, x.extend(6, 1, 0, false));
        check.due("23 and 1 when full", -8, x.extend(6, 2, 0, false));
        check.due("20 and 4 with another intent when full", -8, x.extend(4, 0, 1, false));
        check.due("20 and 4, which is there, when full", 5, x.extend(4, 0, 0, false));
        check.due("24 and a wrong intent when full", -2, x.extend(5, 0, 4, false));
        check.due("links", 16, x.links());
    }

    private static void extendFull() {
        check.says("extend: .. then FULL. (At most 16 links .. are kept)");
        ColourLinker x = Draft.with(check, Draft.plain());
        check.due("link", 0, x.link(0, 0, 0, false));
        for (int i = 1; i < 16; i++) {
            check.due("links", i, x.links());
            check.due("extend", i, x.extend(i - 1, 0, 0, false));
        }
        check.due("links", 16, x.links());
        check.due("a seventeenth by extend", -8, x.extend(15, 0, 0, false));
        check.due("a seventeenth by link", -8, x.link(0, 0, 1, false));
        check.due("links", 16, x.links());
        check.due("one that extend made", 15, x.extend(14, 0, 0, false));
        check.due("one that link made", 0, x.link(0, 0, 0, false));
        check.dueColour("the last one", x.convert(15, 1, 2, 3), 1, 2, 3);
    }

    private static void numbers() {
        check.says("links: The number of links. (numbered from 0 on in the order in which they came)");
        ColourLinker x = Draft.with(check, Draft.gray(0), Draft.plain());
        check.due("links at first", 0, x.links());
        check.due("a refused link", -2, x.link(0, 0, 4, false));
        check.due("links after a refused one", 0, x.links());
        check.due("link", 0, x.link(0, 0, 0, false));
        check.due("extend", 1, x.extend(0, 1, 0, false));
        check.due("link", 2, x.link(1, 0, 0, false));
        check.due("links", 3, x.links());
        x.link(0, 0, 0, false);
        x.extend(0, 1, 0, false);
        x.convert(0, 1, 2, 3);
        x.after(0, 1, 1, 2, 3);
        x.clear();
        check.due("links after calls that make none", 3, x.links());
    }

    private static void pieces() {
        check.says("pieces: The number of pieces of link l (those that are left out are none of them); MISSING when there is no link l.");
        ColourLinker x = Draft.with(check, Draft.plain(), Draft.gray(0), bent(0));
        check.due("pieces without links", -1, x.pieces(0));
        x.link(0, 0, 0, false);
        x.link(1, 1, 0, false);
        x.link(2, 2, 0, false);
        check.due("all left out", 0, x.pieces(0));
        check.due("curves left out", 2, x.pieces(1));
        check.due("none left out", 4, x.pieces(2));
        for (int l : new int[] {-1, 3, 15, 16, LEAST, GREATEST}) {
            check.due("pieces(" + l + ")", -1, x.pieces(l));
        }
    }

    private static void piece() {
        check.says("piece: The kind (1 .. 11) of piece k of link l, counted from 0; MISSING when there is none.");
        ColourLinker x = Draft.with(check, bent(0), Draft.plain());
        x.link(0, 0, 0, false);
        x.link(1, 1, 0, false);
        check.due("the first", 1, x.piece(0, 0));
        check.due("the last", 11, x.piece(0, 3));
        for (int k : new int[] {-1, 4, 24, LEAST, GREATEST}) {
            check.due("piece(0, " + k + ")", -1, x.piece(0, k));
        }
        for (int l : new int[] {-1, 2, 16, LEAST, GREATEST}) {
            check.due("piece(" + l + ", 0)", -1, x.piece(l, 0));
        }
        check.due("a link without pieces", -1, x.piece(1, 0));
    }
}
