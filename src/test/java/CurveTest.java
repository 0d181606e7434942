/** Promise 12: curve. */
public final class CurveTest {
    private static final Check check = new Check();

    public static void main(String[] args) {
        straight();
        samples();
        power();
        rising();
        inverseEverywhere();
        missing();
        check.end();
    }

    private static ColourLinker gray(int... curve) {
        ColourLinker x = new ColourLinker();
        check.due("parse of a curve", 0, new Draft(2, 1, 0).entry(1, curve).parseInto(x));
        return x;
    }

    private static void straight() {
        ColourLinker x = gray(Draft.samples());
        for (int level : new int[] {0, 1, 32767, 65534, 65535}) {
            check.due("no samples at " + level, level, x.curve(0, 1, level, false));
            check.due("inverse of no samples at " + level, level, x.curve(0, 1, level, true));
        }
    }

    private static void samples() {
        ColourLinker x = gray(Draft.samples(100, 40000, 50000));
        check.due("at 0", 100, x.curve(0, 1, 0, false));
        check.due("at 65535", 50000, x.curve(0, 1, 65535, false));
        // q = 65534, f = 65534: 39900 * 65534 / 65535 = 39899.39..
        check.due("at 32767", 39999, x.curve(0, 1, 32767, false));
        // q = 65536, i = 1, f = 1: 10000 / 65535 = 0.15..
        check.due("at 32768", 40000, x.curve(0, 1, 32768, false));
        check.due("inverse of less than e(0)", 0, x.curve(0, 1, 99, true));
        check.due("inverse of e(0)", 0, x.curve(0, 1, 100, true));
        check.due("inverse of e(0) + 1", 1, x.curve(0, 1, 101, true));
        // 10000 * 65533 / 65535 is nearer to 10000 than to 9999
        check.due("inverse of e(2)", 65534, x.curve(0, 1, 50000, true));
        check.due("inverse of more than e(2)", 65535, x.curve(0, 1, 50001, true));
        check.due("inverse of 65535", 65535, x.curve(0, 1, 65535, true));
        ColourLinker y = gray(Draft.samples(65535, 0));
        check.due("a falling curve at 0", 65535, y.curve(0, 1, 0, false));
        check.due("a falling curve at 1", 65534, y.curve(0, 1, 1, false));
        ColourLinker z = gray(Draft.samples(3, 2, 2, 2, 2, 1));
        // 5 * 6554 = 32770, a rest of 32770 of 65535 of the way from 3 to 2: N(-0.50003..) = -1
        check.due("more than half down", 2, z.curve(0, 1, 6554, false));
        check.due("less than half down", 3, z.curve(0, 1, 6553, false));
    }

    private static void power() {
        ColourLinker x = gray(Draft.power(2, 512, 1000));
        check.due("below d", 1998, x.curve(0, 1, 999, false));
        check.due("at d", 15, x.curve(0, 1, 1000, false));
        check.due("no inverse, as it is not rising", -1, x.curve(0, 1, 5, true));
        ColourLinker y = gray(Draft.power(1, 65535, 65535));
        check.due("below d, clipped", 65535, y.curve(0, 1, 65534, false));
        check.due("below d, 255.99", 256, y.curve(0, 1, 1, false));
        check.due("below d, at 0", 0, y.curve(0, 1, 0, false));
        check.due("inverse of 257", 2, y.curve(0, 1, 257, true));
        ColourLinker z = gray(Draft.power(4, 1, 0));
        long p = 40000;
        for (int k = 1; k < 4; k++) {
            p = (2 * p * 40000 + 65535) / 131070;
        }
        check.due("the fourth power", p, z.curve(0, 1, 40000, false));
        check.due("the fourth power of 65535", 65535, z.curve(0, 1, 65535, false));
        ColourLinker half = gray(Draft.power(1, 128, 300));
        check.due("a half goes up", 1, half.curve(0, 1, 1, false));
        check.due("another half goes up", 2, half.curve(0, 1, 3, false));
    }

    private static boolean isRising(int... curve) {
        return gray(curve).curve(0, 1, 0, true) != -1;
    }

    private static void rising() {
        check.due("samples that rise", true, isRising(Draft.samples(0, 1, 2)));
        check.due("samples that stay", false, isRising(Draft.samples(0, 1, 1)));
        check.due("samples that fall at first", false, isRising(Draft.samples(1, 0, 5)));
        check.due("power with d = 0", true, isRising(Draft.power(3, 65535, 0)));
        check.due("power with a step up", true, isRising(Draft.power(2, 1, 30000)));
        // at d = 1001 with g = 1 the value is 1001; below d it is 1000 * c / 256
        check.due("power with an even step", true, isRising(Draft.power(1, 256, 1001)));
        check.due("power that stays over the step", true, isRising(Draft.power(1, 512, 2)));
        check.due("power that falls by one", false, isRising(Draft.power(1, 768, 2)));
        check.due("power with d = 1", true, isRising(Draft.power(4, 65535, 1)));
    }

    /** The answers at all levels, from as many objects as their 512 calls ask for. */
    private static int[] everywhere(int[] curve, boolean inverse) {
        int[] answers = new int[65536];
        ColourLinker x = null;
        for (int level = 0; level < 65536; level++) {
            if (level % 256 == 0) {
                x = gray(curve);
            }
            answers[level] = x.curve(0, 1, level, inverse);
        }
        return answers;
    }

    /** The inverse is the least level whose value is at least y: all levels are looked at. */
    private static void inverseEverywhere() {
        int[][] curves = {Draft.samples(5, 6, 20, 65000), Draft.power(3, 2, 9000), Draft.power(1, 65535, 65535)};
        for (int[] c : curves) {
            int[] values = everywhere(c, false);
            int[] inverses = everywhere(c, true);
            int least = 0;
            for (int y = 0; y < 65536; y++) {
                while (least < 65535 && values[least] < y) {
                    least++;
                }
                check.due("inverse at " + y, least, inverses[y]);
            }
        }
    }

    private static void missing() {
        ColourLinker x = new ColourLinker();
        new Draft(2, 3, 1).entry(6, Draft.still()).entry(1, Draft.samples(0, 9)).entry(4, Draft.samples(9, 0)).parseInto(x);
        check.due("GRAY of three channels", 9, x.curve(0, 1, 65535, false));
        check.due("BLUE in LAB", 9, x.curve(0, 4, 0, false));
        check.due("inverse of BLUE, which falls", -1, x.curve(0, 4, 0, true));
        check.due("RED", -1, x.curve(0, 2, 0, false));
        check.due("GREEN, inverse", -1, x.curve(0, 3, 0, true));
        check.due("signature 0", -1, x.curve(0, 0, 0, false));
        check.due("signature 5", -1, x.curve(0, 5, 0, false));
        check.due("signature 6", -1, x.curve(0, 6, 0, false));
        check.due("a great signature", -1, x.curve(0, Integer.MAX_VALUE, 0, false));
        check.due("a small signature", -1, x.curve(0, Integer.MIN_VALUE, 0, false));
        check.due("level -1", -1, x.curve(0, 1, -1, false));
        check.due("level 65536", -1, x.curve(0, 1, 65536, false));
        check.due("level 65536, inverse", -1, x.curve(0, 1, 65536, true));
        check.due("profile 1", -1, x.curve(1, 1, 0, false));
        check.due("profile -1", -1, x.curve(-1, 1, 0, false));
    }
}
