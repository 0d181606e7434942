/** "A refused call changes nothing": all that an object tells is asked before and after every refused call. */
public final class RefusedEdgeTest {
    private static final Check check = new Check();
    private static final int CALLS = 34;

    public static void main(String[] args) {
        for (int call = 0; call < CALLS; call++) {
            refusedIn("few", few(), call);
            refusedIn("full", full(), call);
            refusedIn("long", longest(), call);
        }
        check.end();
    }

    /** Two profiles, three links, conversions, and no profile in the buffer. */
    private static ColourLinker few() {
        ColourLinker x = Draft.with(check, Draft.gray(0, 0, 65535), new Draft(1, 1, 0).entry(1, 1, 0));
        x.link(0, 0, 0, false);
        x.link(1, 0, 3, false);
        x.extend(0, 0, 1, true);
        x.convert(0, 500, 0, 0);
        x.convert(2, 600, 0, 0);
        x.set(7, 1);
        return x;
    }

    /** Six profiles, sixteen links, conversions. */
    private static ColourLinker full() {
        ColourLinker x = Draft.with(check, Draft.gray(0, 0, 65535), new Draft(1, 1, 0).entry(1, 1, 0), Draft.gray(0), Draft.gray(1),
            Draft.gray(0), Draft.gray(1));
        x.link(0, 0, 0, false);
        x.link(1, 0, 3, false);
        x.extend(0, 0, 1, true);
        for (int i = 3; i < 16; i++) {
            x.link(2 + i / 8, 2 + i % 2, i / 2 % 4, false);
        }
        check.due("links", 16, x.links());
        x.convert(0, 500, 0, 0);
        x.convert(2, 600, 0, 0);
        return x;
    }

    /** The same with seven links, the last one of 24 pieces. */
    private static ColourLinker longest() {
        ColourLinker x = few();
        for (int i = 3; i < 7; i++) {
            check.due("extend", i, x.extend(i - 1, 0, 0, false));
        }
        check.due("pieces", 24, x.pieces(6));
        return x;
    }

    /** All but what convert() would tell, which is asked at last, as it changes what work() tells. */
    private static String told(ColourLinker x) {
        StringBuilder all = new StringBuilder();
        all.append(x.size()).append(':');
        for (int p = 0; p <= x.size(); p++) {
            all.append(x.at(p)).append(' ');
        }
        all.append("| ").append(x.profiles()).append(':');
        for (int p = 0; p <= x.profiles(); p++) {
            all.append(x.elements(p)).append(' ').append(x.same(0, p)).append(' ').append(x.curve(p, 1, 777, false)).append(' ');
        }
        all.append("| ").append(x.links()).append(':');
        for (int l = 0; l <= x.links(); l++) {
            all.append(x.pieces(l)).append(' ').append(x.piece(l, 0)).append(' ').append(x.after(l, 2, 700, 0, 0)).append(' ');
        }
        return all.append("| ").append(x.work()).toString();
    }

    /** The answer of a call that is refused; true and false count 1 and 0. */
    private static long refused(ColourLinker x, int call) {
        switch (call) {
            case 0: return x.add(1, 0) ? 1 : 0;
            case 1: return x.add(1, 5) ? 1 : 0;
            case 2: return x.add(-1, -1) ? 1 : 0;
            case 3: return x.set(-1, 5) ? 1 : 0;
            case 4: return x.set(x.size(), 5) ? 1 : 0;
            case 5: return x.set(0, 256) ? 1 : 0;
            case 6: return x.set(1, -1) ? 1 : 0;
            case 7: return x.at(-1);
            case 8: return x.at(256);
            case 9: return x.elements(6);
            case 10: return x.same(0, 6) ? 1 : 0;
            case 11: return x.write(-1);
            case 12: return x.write(6);
            case 13: return x.curve(0, 2, 5, false);
            case 14: return x.curve(0, 1, 65536, true);
            case 15: return x.link(0, 6, 0, false);
            case 16: return x.link(-1, 0, 0, false);
            case 17: return x.link(0, 0, 4, false);
            case 18: return x.link(0, 1, 0, false);
            case 19: return x.extend(16, 0, 0, false);
            case 20: return x.extend(0, -1, 0, false);
            case 21: return x.extend(0, 0, -1, false);
            case 22: return x.extend(0, 1, 2, true);
            case 23: return x.pieces(16);
            case 24: return x.piece(0, 4);
            case 25: return x.convert(16, 1, 0, 0);
            case 26: return x.convert(0, 65536, 0, 0);
            case 27: return x.convert(2, -1, 0, 0);
            case 28: return x.after(0, 5, 1, 0, 0);
            case 29: return x.after(0, 2, -1, 0, 0);
            default: return refusedByState(x, call);
        }
    }

    private static long refusedByState(ColourLinker x, int call) {
        switch (call) {
            case 30: return x.parse();
            case 31: return x.links() == 16 ? x.link(2, 2, 2, true) : x.link(2, 2, 4, true);
            case 32: return x.links() == 16 ? x.extend(1, 2, 2, true) : x.extend(1, 2, 4, true);
            default: return x.links() == 7 ? x.extend(6, 0, 0, false) : x.extend(15, 9, 0, false);
        }
    }

    private static void refusedIn(String state, ColourLinker x, int call) {
        check.says("A refused call changes nothing. (object: " + state + ")");
        String before = told(x);
        long answer = refused(x, call);
        check.due("call " + call + " is refused", true, answer < 0 || answer == 0 && (call <= 6 || call == 10));
        String after = told(x);
        check.due("call " + call + " (" + answer + "): " + before + " became " + after, true, before.equals(after));
        int work = x.work();
        x.convert(0, 500, 0, 0);
        x.convert(2, 600, 0, 0);
        check.due("the latest colours after call " + call, work, x.work());
        x.convert(0, 501, 0, 0);
        check.due("another colour after call " + call, work + 4, x.work());
    }
}
