/** The boundary cases of promises 18 to 20, convert, after and work, a method for each sentence. */
public final class ConvertEdgeTest {
    private static final Check check = new Check();
    private static final int LEAST = Integer.MIN_VALUE;
    private static final int GREATEST = Integer.MAX_VALUE;
    private static final int[] NO_LEVELS = {-1, 65536, 65537, -65536, LEAST, GREATEST};

    public static void main(String[] args) {
        convertPacked();
        convertNoPieces();
        convertOneAfterTheOther();
        convertOneChannel();
        convertMissingLink();
        convertMissingLevel();
        afterFirst();
        afterTaken();
        afterMissing();
        afterIsNoConversion();
        workCounts();
        workSameColour();
        workLatest();
        workOtherLinks();
        workRefused();
        workAsTaken();
        workNoPieces();
        check.end();
    }

    private static Draft bent(int space) {
        return Draft.gray(space, 0, 65535);
    }

    private static void convertPacked() {
        check.says("convert: v0 * 4294967296 + v1 * 65536 + v2");
        ColourLinker x = Draft.with(check, Draft.plain());
        x.link(0, 0, 0, false);
        check.due("black", 0L, x.convert(0, 0, 0, 0));
        check.due("v2 alone", 65535L, x.convert(0, 0, 0, 65535));
        check.due("v1 alone", 4294901760L, x.convert(0, 0, 65535, 0));
        check.due("v0 alone", 281470681743360L, x.convert(0, 65535, 0, 0));
        check.due("all", 281474976710655L, x.convert(0, 65535, 65535, 65535));
        check.due("1, 2, 3", 4295098371L, x.convert(0, 1, 2, 3));
    }

    private static void convertNoPieces() {
        check.says("convert: The colour that all pieces of link l (perhaps none) .. make of (a, b, c)");
        ColourLinker x = Draft.with(check, Draft.plain());
        x.link(0, 0, 0, false);
        x.extend(0, 0, 3, true);
        check.due("pieces", 0, x.pieces(1));
        check.dueColour("none", x.convert(0, 7, 65535, 0), 7, 65535, 0);
        check.dueColour("none, extended", x.convert(1, 65535, 0, 9), 65535, 0, 9);
    }

    private static void convertOneAfterTheOther() {
        check.says("convert: The colour that all pieces of link l .., one after the other, make of (a, b, c)");
        ColourLinker x = Draft.with(check, Draft.shaped(), bent(1));
        x.link(0, 1, 0, false);
        x.extend(0, 0, 0, false);
        int last = x.pieces(1);
        check.due("pieces", 10, last);
        long whole = x.convert(1, 40000, 50000, 60000);
        check.due("as after all of them", whole, x.after(1, last, 40000, 50000, 60000));
        check.due("another one between", true, x.convert(1, 1, 2, 3) != whole);
        check.due("and again", whole, x.convert(1, 40000, 50000, 60000));
        check.due("the same at once", whole, x.convert(1, 40000, 50000, 60000));
    }

    private static void convertOneChannel() {
        check.says("convert: When the first profile of l has one channel, b and c are not looked at and taken as 0.");
        ColourLinker x = Draft.with(check, Draft.gray(0), Draft.plain());
        x.link(0, 1, 0, false);
        for (int b : NO_LEVELS) {
            check.dueColour("b is " + b, x.convert(0, 65535, b, 0), 31595, 32768, 27030);
            check.dueColour("c is " + b, x.convert(0, 65535, 0, b), 31595, 32768, 27030);
            check.dueColour("b and c are " + b, x.convert(0, 0, b, b), 0, 0, 0);
            check.due("a is " + b, -1, x.convert(0, b, 0, 0));
        }
        // that the last profile has one channel makes no difference
        x.link(1, 0, 0, false);
        check.due("three channels to one, b", -1, x.convert(1, 0, -1, 0));
        check.due("three channels to one, c", -1, x.convert(1, 0, 0, 65536));
        check.dueColour("three channels to one", x.convert(1, 0, 32768, 0), 65535, 0, 0);
    }

    private static void convertMissingLink() {
        check.says("convert: MISSING when there is no link l");
        ColourLinker x = Draft.with(check, Draft.gray(0));
        check.due("no link at all", -1, x.convert(0, 0, 0, 0));
        x.link(0, 0, 0, false);
        for (int l : new int[] {-1, 1, 15, 16, LEAST, GREATEST}) {
            check.due("link " + l, -1, x.convert(l, 0, 0, 0));
        }
        check.due("link 0", 0, x.convert(0, 0, 0, 0));
    }

    private static void convertMissingLevel() {
        check.says("convert: MISSING when .. a, b or c (if looked at) is no level.");
        ColourLinker x = Draft.with(check, Draft.plain());
        x.link(0, 0, 0, false);
        for (int v : NO_LEVELS) {
            check.due("a is " + v, -1, x.convert(0, v, 0, 0));
            check.due("b is " + v, -1, x.convert(0, 0, v, 0));
            check.due("c is " + v, -1, x.convert(0, 0, 0, v));
            check.due("all are " + v, -1, x.convert(0, v, v, v));
        }
        check.dueColour("the least and the greatest levels", x.convert(0, 0, 65535, 0), 0, 65535, 0);
        check.dueColour("the greatest and the least levels", x.convert(0, 65535, 0, 65535), 65535, 0, 65535);
    }

    private static void afterFirst() {
        check.says("after: The colour that the first k pieces of link l make of (a, b, c)");
        ColourLinker x = Draft.with(check, Draft.shapedBy(2048, 0, 0, 0, 2048, 0, 0, 0, 2048), Draft.plain());
        x.link(0, 1, 0, false);
        x.extend(0, 0, 0, false);
        check.due("pieces", 2, x.pieces(1));
        check.dueColour("none of them", x.after(1, 0, 100, 200, 65535), 100, 200, 65535);
        check.dueColour("the first", x.after(1, 1, 100, 200, 65535), 50, 100, 32768);
        check.dueColour("both", x.after(1, 2, 100, 200, 65535), 100, 200, 65535);
        ColourLinker y = Draft.with(check, Draft.plain());
        y.link(0, 0, 0, false);
        check.dueColour("none of none", y.after(0, 0, 65535, 1, 0), 65535, 1, 0);
    }

    private static void afterTaken() {
        check.says("after: .. taken and answered as in convert()");
        ColourLinker x = Draft.with(check, Draft.gray(0));
        x.link(0, 0, 0, false);
        check.dueColour("b and c are taken as 0", x.after(0, 0, 65535, 7, 8), 65535, 0, 0);
        for (int v : NO_LEVELS) {
            check.dueColour("b and c are not looked at", x.after(0, 1, 65535, v, v), 31595, 32768, 27030);
        }
    }

    private static void afterMissing() {
        check.says("after: MISSING when convert() would answer that, or k is not 0 .. pieces(l).");
        ColourLinker x = Draft.with(check, bent(0), Draft.plain());
        check.due("no link at all", -1, x.after(0, 0, 0, 0, 0));
        x.link(0, 0, 0, false);
        x.link(1, 1, 0, false);
        for (int k : new int[] {-1, 5, 24, LEAST, GREATEST}) {
            check.due("k is " + k, -1, x.after(0, k, 0, 0, 0));
        }
        for (int k : new int[] {-1, 1, LEAST, GREATEST}) {
            check.due("no pieces, k is " + k, -1, x.after(1, k, 0, 0, 0));
        }
        for (int k = 0; k <= 4; k++) {
            check.due("k is " + k, true, x.after(0, k, 0, 0, 0) >= 0);
            check.due("a is no level, k is " + k, -1, x.after(0, k, 65536, 0, 0));
            check.due("no link, k is " + k, -1, x.after(2, k, 0, 0, 0));
            check.due("link -1, k is " + k, -1, x.after(-1, k, 0, 0, 0));
        }
        for (int v : NO_LEVELS) {
            check.due("a is " + v, -1, x.after(1, 0, v, 0, 0));
            check.due("b is " + v, -1, x.after(1, 0, 0, v, 0));
            check.due("c is " + v, -1, x.after(1, 0, 0, 0, v));
            check.due("link " + v, -1, x.after(v, 0, 0, 0, 0));
        }
    }

    private static void afterIsNoConversion() {
        check.says("after: It is no conversion. (work: after() is none)");
        ColourLinker x = Draft.with(check, bent(0));
        x.link(0, 0, 0, false);
        x.after(0, 4, 5, 0, 0);
        check.due("work after after()", 0, x.work());
        x.convert(0, 5, 0, 0);
        check.due("after() before it does not count as the latest", 4, x.work());
        x.after(0, 4, 6, 0, 0);
        x.convert(0, 5, 0, 0);
        check.due("after() with another colour since", 4, x.work());
        x.after(0, 0, 6, 0, 0);
        x.convert(0, 6, 0, 0);
        check.due("after() with the same colour before", 8, x.work());
    }

    private static void workCounts() {
        check.says("work: How many pieces were run by all calls of convert() that were not refused: as many as its link has for each of them");
        ColourLinker x = Draft.with(check, bent(0), Draft.gray(0));
        check.due("work of a new object", 0, x.work());
        x.link(0, 0, 0, false);
        x.link(1, 1, 0, false);
        x.link(1, 0, 0, false);
        x.extend(0, 1, 0, false);
        check.due("work before conversions", 0, x.work());
        int[] pieces = {4, 2, 3, 7};
        int sum = 0;
        for (int l = 0; l < 4; l++) {
            for (int a = 0; a < 5; a++) {
                x.convert(l, a, 0, 0);
                sum += pieces[l];
                check.due("work", sum, x.work());
            }
        }
        check.due("work() changes nothing", sum, x.work());
    }

    private static void workSameColour() {
        check.says("work: .. but none for one whose colour, as taken, is the same as that of the latest such call with the same link");
        ColourLinker x = Draft.with(check, new Draft(2, 3, 0).colours(Draft.samples(0, 65535)).entry(5, Draft.unit()));
        x.link(0, 0, 0, false);
        x.convert(0, 0, 0, 0);
        check.due("the first one, black", 2, x.work());
        x.convert(0, 0, 0, 0);
        x.convert(0, 0, 0, 0);
        check.due("the same twice", 2, x.work());
        x.convert(0, 1, 0, 0);
        check.due("a differs", 4, x.work());
        x.convert(0, 1, 1, 0);
        check.due("b differs", 6, x.work());
        x.convert(0, 1, 1, 1);
        check.due("c differs", 8, x.work());
        x.convert(0, 1, 1, 1);
        check.due("the same", 8, x.work());
        x.convert(0, 65535, 65535, 65535);
        check.due("white", 10, x.work());
        x.convert(0, 65535, 65535, 65535);
        check.due("white again", 10, x.work());
    }

    private static void workLatest() {
        check.says("work: .. the latest such call with the same link");
        ColourLinker x = Draft.with(check, bent(0));
        x.link(0, 0, 0, false);
        x.convert(0, 1, 0, 0);
        x.convert(0, 2, 0, 0);
        x.convert(0, 1, 0, 0);
        check.due("an earlier one is not the latest", 12, x.work());
        x.convert(0, 1, 0, 0);
        x.convert(0, 1, 0, 0);
        check.due("the latest may be one that ran no pieces", 12, x.work());
    }

    private static void workOtherLinks() {
        check.says("work: .. with the same link (whatever calls with others came since");
        ColourLinker x = Draft.with(check, bent(0), Draft.gray(0));
        x.link(0, 0, 0, false);
        x.link(0, 1, 0, false);
        x.extend(0, 1, 0, false);
        x.convert(0, 9, 0, 0);
        check.due("link 0", 4, x.work());
        x.convert(1, 9, 0, 0);
        check.due("link 1 with the same colour", 7, x.work());
        x.convert(2, 9, 0, 0);
        check.due("the extended one with the same colour", 14, x.work());
        x.convert(1, 10, 0, 0);
        check.due("link 1 with another one", 17, x.work());
        x.convert(0, 9, 0, 0);
        x.convert(1, 10, 0, 0);
        x.convert(2, 9, 0, 0);
        check.due("each with its latest one", 17, x.work());
        x.link(0, 0, 0, false);
        x.link(1, 0, 0, false);
        x.extend(0, 0, 0, false);
        x.clear();
        x.parse();
        x.write(0);
        x.convert(0, 9, 0, 0);
        check.due("after other calls", 17, x.work());
    }

    private static void workRefused() {
        check.says("work: .. all calls of convert() that were not refused");
        ColourLinker x = Draft.with(check, new Draft(2, 3, 0).colours(Draft.samples(0, 65535)).entry(5, Draft.unit()));
        x.link(0, 0, 0, false);
        x.convert(0, 65536, 0, 0);
        x.convert(1, 0, 0, 0);
        check.due("refused ones at first", 0, x.work());
        x.convert(0, 5, 6, 7);
        x.convert(0, -1, 6, 7);
        x.convert(0, 5, 65536, 7);
        x.convert(0, 5, 6, -1);
        x.convert(-1, 8, 8, 8);
        check.due("refused ones", 2, x.work());
        x.convert(0, 5, 6, 7);
        check.due("a refused one is not the latest", 2, x.work());
    }

    private static void workAsTaken() {
        check.says("work: .. one whose colour, as taken, is the same");
        ColourLinker x = Draft.with(check, bent(0), Draft.plain());
        x.link(0, 0, 0, false);
        x.convert(0, 5, 1, 2);
        x.convert(0, 5, 3, 4);
        x.convert(0, 5, -1, 65536);
        x.convert(0, 5, 0, 0);
        check.due("b and c are taken as 0", 4, x.work());
        x.convert(0, 6, 0, 0);
        check.due("a differs", 8, x.work());
        // what the pieces make of two colours may be the same
        ColourLinker y = Draft.with(check, Draft.plain(), Draft.gray(0));
        y.link(0, 1, 0, false);
        check.due("the same answer", y.convert(0, 1, 5, 3), y.convert(0, 2, 5, 3));
        check.due("but another colour", 2, y.work());
    }

    private static void workNoPieces() {
        check.says("work: .. as many as its link has (perhaps none)");
        ColourLinker x = Draft.with(check, Draft.plain());
        x.link(0, 0, 0, false);
        for (int a = 0; a < 4; a++) {
            x.convert(0, a, a, a);
        }
        check.due("work", 0, x.work());
    }
}
