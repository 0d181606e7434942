/** The boundary cases of CURVES and of promise 12, a method for each sentence. */
public final class CurveEdgeTest {
    private static final Check check = new Check();

    public static void main(String[] args) {
        noSamples();
        lastSample();
        betweenSamples();
        belowD();
        lineIsClipped();
        powerSteps();
        risingSamples();
        risingPower();
        inverseLeast();
        inverseNone();
        missingProfile();
        missingEntry();
        missingLevel();
        missingInverse();
        check.end();
    }

    private static ColourLinker gray(int... curve) {
        return Draft.with(check, new Draft(2, 1, 0).entry(1, curve));
    }

    private static void dueValues(String what, ColourLinker x, int... pairs) {
        for (int i = 0; i < pairs.length; i += 2) {
            check.due(what + ", value at " + pairs[i], pairs[i + 1], x.curve(0, 1, pairs[i], false));
        }
    }

    private static void dueInverses(String what, ColourLinker x, int... pairs) {
        for (int i = 0; i < pairs.length; i += 2) {
            check.due(what + ", inverse at " + pairs[i], pairs[i + 1], x.curve(0, 1, pairs[i], true));
        }
    }

    private static void noSamples() {
        check.says("SAMPLES with n = 0: x.");
        ColourLinker x = gray(Draft.samples());
        int[] same = {0, 0, 1, 1, 32767, 32767, 32768, 32768, 65534, 65534, 65535, 65535};
        dueValues("n = 0", x, same);
        dueInverses("n = 0", x, same);
    }

    private static void lastSample() {
        check.says("SAMPLES with n of 2 or more: .. i the lesser one of n - 2 and the whole part of q / 65535");
        for (int n = 2; n <= 24; n++) {
            int[] e = new int[n];
            for (int i = 0; i < n; i++) {
                e[i] = 1000 + 7 * i * i;
            }
            ColourLinker x = gray(Draft.samples(e));
            dueValues("n = " + n, x, 0, e[0], 65535, e[n - 1]);
            // the last segment is not left before the end: 65534 lies (n - 1) / 65535 before it
            dueValues("n = " + n, x, 65534, e[n - 1]);
        }
        // n - 1 = 3, 5, 15, 17 divide 65535, so a level lies just on every sample
        for (int n : new int[] {2, 4, 6, 16, 18}) {
            int[] e = new int[n];
            for (int i = 0; i < n; i++) {
                e[i] = i % 2 == 0 ? 60000 - i : i;
            }
            ColourLinker x = gray(Draft.samples(e));
            for (int i = 0; i < n; i++) {
                dueValues("a level on a sample, n = " + n, x, 65535 / (n - 1) * i, e[i]);
            }
        }
    }

    private static void betweenSamples() {
        check.says("the value is e(i) + N((e(i + 1) - e(i)) * f / 65535)");
        ColourLinker up = gray(Draft.samples(0, 65535));
        dueValues("from 0 up to 65535", up, 0, 0, 1, 1, 32767, 32767, 32768, 32768, 65534, 65534, 65535, 65535);
        ColourLinker down = gray(Draft.samples(65535, 0));
        dueValues("from 65535 down to 0", down, 0, 65535, 1, 65534, 32767, 32768, 32768, 32767, 65534, 1, 65535, 0);
        // the half lies between 32767 and 32768
        dueValues("from 0 up to 1", gray(Draft.samples(0, 1)), 32767, 0, 32768, 1);
        dueValues("from 1 down to 0", gray(Draft.samples(1, 0)), 32767, 1, 32768, 0);
        dueValues("from 0 up to 2", gray(Draft.samples(0, 2)), 16383, 0, 16384, 1, 49151, 1, 49152, 2);
        dueValues("from 2 down to 0", gray(Draft.samples(2, 0)), 16383, 2, 16384, 1, 49151, 1, 49152, 0);
        dueValues("up and down", gray(Draft.samples(0, 65535, 0)), 32767, 65534, 32768, 65534, 16384, 32768, 49152, 32766);
        dueValues("all the same", gray(Draft.samples(9, 9)), 0, 9, 32768, 9, 65535, 9);
    }

    private static void belowD() {
        check.says("POWER: when x < d, CLIP(N(c * x / 256)); otherwise P(g)");
        ColourLinker x = gray(Draft.power(1, 512, 100));
        dueValues("d = 100", x, 0, 0, 98, 196, 99, 198, 100, 100, 101, 101, 65535, 65535);
        dueValues("d = 0", gray(Draft.power(1, 512, 0)), 0, 0, 1, 1, 65535, 65535);
        dueValues("d = 1", gray(Draft.power(1, 512, 1)), 0, 0, 1, 1, 65535, 65535);
        dueValues("d = 65535", gray(Draft.power(1, 0, 65535)), 0, 0, 65534, 0, 65535, 65535);
        dueValues("c = 0", gray(Draft.power(2, 0, 300)), 299, 0, 300, 1);
        dueValues("c = 1", gray(Draft.power(1, 1, 65535)), 127, 0, 128, 1, 383, 1, 384, 2, 65534, 256);
    }

    private static void lineIsClipped() {
        check.says("CLIP(v) is v, but .. 65535 when v is more than 65535. (POWER: CLIP(N(c * x / 256)))");
        // 65535 * 256 / 256 = 65535, and 65535 * 257 / 256 is more
        dueValues("c = 65535", gray(Draft.power(1, 65535, 65535)), 1, 256, 255, 65279, 256, 65535, 257, 65535, 32768, 65535, 65534, 65535);
        // 257 * 65281 / 256 = 65536.003..; 257 * 65279 / 256 = 65533.99..
        dueValues("c = 257", gray(Draft.power(1, 257, 65535)), 65279, 65534, 65280, 65535, 65281, 65535, 65534, 65535);
    }

    private static void powerSteps() {
        check.says("P(1) = x and P(k + 1) = N(P(k) * x / 65535)");
        dueValues("g = 1", gray(Draft.power(1, 0, 0)), 0, 0, 12345, 12345, 65535, 65535);
        // 181 * 181 / 65535 = 0.4999..; 182 * 182 / 65535 = 0.5054..
        dueValues("g = 2", gray(Draft.power(2, 0, 0)), 0, 0, 1, 0, 181, 0, 182, 1, 65534, 65533, 65535, 65535);
        // rounded once for all it would be 1 at 1291 and at 1855, and 0 at 3440 with g = 4
        dueValues("g = 3", gray(Draft.power(3, 0, 0)), 1291, 0, 1855, 2, 65534, 65532, 65535, 65535);
        dueValues("g = 4", gray(Draft.power(4, 0, 0)), 3440, 1, 65534, 65531, 65535, 65535);
    }

    private static void dueRising(String what, boolean want, int... curve) {
        ColourLinker x = gray(curve);
        check.due(what + " is rising", want, x.curve(0, 1, 0, true) != -1);
        check.due(what + " is rising, as link sees it", want ? 0 : -6, x.link(0, 0, 0, false));
        check.due(what + " has values in any case", true, x.curve(0, 1, 0, false) >= 0);
    }

    private static void risingSamples() {
        check.says("A curve is RISING: SAMPLES when n = 0 or each e is greater than the one before it");
        dueRising("n = 0", true, Draft.samples());
        dueRising("0, 1", true, Draft.samples(0, 1));
        dueRising("0, 0", false, Draft.samples(0, 0));
        dueRising("1, 0", false, Draft.samples(1, 0));
        dueRising("65534, 65535", true, Draft.samples(65534, 65535));
        dueRising("65535, 65535", false, Draft.samples(65535, 65535));
        int[] e = new int[24];
        for (int i = 0; i < 24; i++) {
            e[i] = 10 * i;
        }
        dueRising("24 samples", true, Draft.samples(e));
        for (int i = 1; i < 24; i++) {
            int before = e[i];
            e[i] = e[i - 1];
            dueRising("24 samples, e(" + i + ") as the one before", false, Draft.samples(e));
            e[i] = e[i - 1] + 1;
            dueRising("24 samples, e(" + i + ") just greater than the one before", true, Draft.samples(e));
            e[i] = before;
        }
    }

    private static void risingPower() {
        check.says("A curve is RISING: .. POWER when d = 0, or CLIP(N(c * (d - 1) / 256)) is not greater than the value at x = d.");
        dueRising("d = 0", true, Draft.power(4, 65535, 0));
        dueRising("d = 1", true, Draft.power(4, 65535, 1));
        // the value at d = 101 is 101, before it 100 * c / 256: 258 gives 100.78, 259 101.17, 260 101.56
        dueRising("101 before, 101 at d", true, Draft.power(1, 258, 101));
        dueRising("101 before, 101 at d again", true, Draft.power(1, 259, 101));
        dueRising("102 before, 101 at d", false, Draft.power(1, 260, 101));
        dueRising("100 before, 101 at d", true, Draft.power(1, 256, 101));
        // the value at 65535 is 65535 for every g, and before it the line is clipped to 65535
        dueRising("clipped before d = 65535", true, Draft.power(4, 65535, 65535));
        dueRising("clipped before d = 65534", false, Draft.power(1, 65535, 65534));
        dueRising("c = 0", true, Draft.power(3, 0, 40000));
        // the value at d = 300 with g = 2 is N(1.37..) = 1; 299 * 1 / 256 = 1.16.., 299 * 2 / 256 = 2.33..
        dueRising("g = 2, c = 1", true, Draft.power(2, 1, 300));
        dueRising("g = 2, c = 2", false, Draft.power(2, 2, 300));
    }

    private static void inverseLeast() {
        check.says("The INVERSE of a rising curve at a level y: the least level x whose value is at least y");
        dueInverses("0, 1", gray(Draft.samples(0, 1)), 0, 0, 1, 32768);
        dueInverses("0, 65535", gray(Draft.samples(0, 65535)), 0, 0, 1, 1, 32768, 32768, 65534, 65534, 65535, 65535);
        dueInverses("7, 8", gray(Draft.samples(7, 8)), 0, 0, 7, 0, 8, 32768);
        // a step from 99 * 2 / 256 = 0.77.. to 100
        dueInverses("a step", gray(Draft.power(1, 2, 100)), 0, 0, 1, 64, 2, 100, 99, 100, 100, 100, 101, 101, 65535, 65535);
        // clipped from 256 on
        dueInverses("clipped", gray(Draft.power(1, 65535, 65535)), 256, 1, 257, 2, 65279, 255, 65280, 256, 65535, 256);
        dueInverses("a square", gray(Draft.power(2, 0, 0)), 0, 0, 1, 182, 65534, 65535, 65535, 65535);
        // only the last level has more than 0
        dueInverses("the last level alone", gray(Draft.power(1, 0, 65535)), 0, 0, 1, 65535, 65535, 65535);
    }

    private static void inverseNone() {
        check.says("The INVERSE ..: 65535 when there is none.");
        dueInverses("0, 1", gray(Draft.samples(0, 1)), 1, 32768, 2, 65535, 65535, 65535);
        dueInverses("0, 65534", gray(Draft.samples(0, 65534)), 65534, 65535, 65535, 65535);
        dueInverses("0, 2, 4", gray(Draft.samples(0, 2, 4)), 4, 57344, 5, 65535);
    }

    private static ColourLinker some() {
        return Draft.with(check, new Draft(2, 3, 1).entry(6, Draft.still()).entry(1, Draft.samples(3, 9)).entry(4, Draft.samples(9, 3)),
            new Draft(2, 1, 0).entry(1, Draft.samples(1, 5)).entry(2, Draft.samples(2, 5)).entry(3, Draft.samples(3, 5)).entry(4, Draft.samples(4, 5)));
    }

    private static void missingProfile() {
        check.says("curve: MISSING when there is no profile p");
        ColourLinker x = some();
        for (int p : new int[] {-1, 2, 5, 6, Integer.MIN_VALUE, Integer.MAX_VALUE}) {
            check.due("curve of profile " + p, -1, x.curve(p, 1, 0, false));
            check.due("inverse of profile " + p, -1, x.curve(p, 1, 0, true));
        }
    }

    private static void missingEntry() {
        check.says("curve: .. the entry with signature s (1 .. 4, whatever its channels) .. MISSING when .. s is not 1 .. 4, p has no such entry");
        ColourLinker x = some();
        check.due("GRAY of three channels", 3, x.curve(0, 1, 0, false));
        check.due("RED that is not there", -1, x.curve(0, 2, 0, false));
        check.due("GREEN that is not there", -1, x.curve(0, 3, 0, false));
        check.due("GREEN that is not there, inverse", -1, x.curve(0, 3, 0, true));
        check.due("BLUE in LAB", 9, x.curve(0, 4, 0, false));
        for (int s = 1; s <= 4; s++) {
            check.due("signature " + s + " of one channel", s, x.curve(1, s, 0, false));
            check.due("signature " + s + " of one channel, inverse", 0, x.curve(1, s, s, true));
        }
        for (int s : new int[] {0, -1, 5, 6, 9, 12, 13, Integer.MIN_VALUE, Integer.MAX_VALUE}) {
            check.due("signature " + s, -1, x.curve(0, s, 0, false));
            check.due("signature " + s + ", inverse", -1, x.curve(1, s, 0, true));
        }
    }

    private static void missingLevel() {
        check.says("curve: MISSING when .. x is no level");
        ColourLinker x = some();
        for (int level : new int[] {-1, 65536, 131071, Integer.MIN_VALUE, Integer.MAX_VALUE}) {
            check.due("curve at " + level, -1, x.curve(1, 1, level, false));
            check.due("inverse at " + level, -1, x.curve(1, 1, level, true));
        }
        check.due("curve at 0", 1, x.curve(1, 1, 0, false));
        check.due("curve at 65535", 5, x.curve(1, 1, 65535, false));
        check.due("inverse at 0", 0, x.curve(1, 1, 0, true));
        check.due("inverse at 65535", 65535, x.curve(1, 1, 65535, true));
    }

    private static void missingInverse() {
        check.says("curve: MISSING when .. inverse is true and the curve is not rising.");
        ColourLinker x = some();
        for (int level : new int[] {0, 3, 9, 65535}) {
            check.due("inverse of a falling curve at " + level, -1, x.curve(0, 4, level, true));
        }
        check.due("value of a falling curve", 9, x.curve(0, 4, 0, false));
        check.due("value of a falling curve at last", 3, x.curve(0, 4, 65535, false));
    }
}
