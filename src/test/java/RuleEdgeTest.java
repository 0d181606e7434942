import java.util.Arrays;

/** The boundary cases of A PROFILE IN THE BUFFER, its rules 1 to 9, and of promises 7 and 8. */
public final class RuleEdgeTest {
    private static final Check check = new Check();

    public static void main(String[] args) {
        rule1Bytes();
        rule1Size();
        rule2();
        rule2Entries();
        rule2Order();
        rule3();
        rule3Again();
        rule4Offset();
        rule4BehindEntries();
        rule4Length();
        rule5();
        rule6();
        rule7();
        rule7Shared();
        rule8Samples();
        rule8Power();
        rule8Matrix();
        rule8Grid();
        rule8Point();
        rule9OneChannel();
        rule9ThreeChannels();
        orderOfRules();
        orderOfEntries();
        unseenBytes();
        full();
        bufferStays();
        numbers();
        check.end();
    }

    /** Parses the bytes in a new object; each change is a place and a byte. */
    private static int parsed(int[] bytes, int... changes) {
        int[] changed = bytes.clone();
        for (int i = 0; i < changes.length; i += 2) {
            changed[changes[i]] = changes[i + 1];
        }
        ColourLinker x = new ColourLinker();
        Draft.load(x, changed);
        int answer = x.parse();
        check.due("profiles after " + answer, answer == 0 ? 1 : 0, x.profiles());
        return answer;
    }

    /** 16 bytes: GRAY alone, its data at 12. */
    private static int[] gray() {
        return Draft.gray(0).bytes();
    }

    /** As many bytes as said, the first ones those of gray(), with SIZE as it should be. */
    private static int[] graySized(int bytes) {
        int[] b = Arrays.copyOf(gray(), bytes);
        b[0] = bytes / 256;
        b[1] = bytes % 256;
        return b;
    }

    private static int rule(int rule, int place) {
        return -(1000 * rule + place);
    }

    private static void rule1Bytes() {
        check.says("1, place 0: the buffer has at least 12 bytes, their number is a multiple of 4");
        check.due("parse of no bytes", -1000, new ColourLinker().parse());
        check.due("parse of one byte", -1000, parsed(new int[] {1}));
        for (int n = 2; n <= 256; n++) {
            int want = n < 12 || n % 4 != 0 ? -1000 : n < 16 ? -4009 : 0;
            check.due("parse of " + n + " bytes", want, parsed(graySized(n)));
        }
    }

    private static void rule1Size() {
        check.says("1, place 0: .. SIZE is their number.");
        for (int size : new int[] {0, 1, 12, 15, 17, 20, 255, 256, 272, 16 * 256, 65535}) {
            check.due("SIZE " + size + " of 16", -1000, parsed(gray(), 0, size / 256, 1, size % 256));
        }
        for (int size : new int[] {0, 1, 252, 255, 257, 260, 512, 65280}) {
            check.due("SIZE " + size + " of 256", -1000, parsed(graySized(256), 0, size / 256, 1, size % 256));
        }
        check.due("SIZE 256 of 256", 0, parsed(graySized(256)));
        check.due("SIZE 252 of 252", 0, parsed(graySized(252)));
    }

    private static void rule2() {
        check.says("2, place p: byte p is as said above (CLASS 1 or 2, CHANNELS 1 or 3, SPACE 0 or 1, 0, T 1 .. 12, 0)");
        for (int b = 0; b <= 255; b++) {
            check.due("CLASS " + b, b == 1 || b == 2 ? 0 : -2002, parsed(gray(), 2, b));
            check.due("CHANNELS " + b, b == 1 ? 0 : b == 3 ? -9003 : -2003, parsed(gray(), 3, b));
            check.due("SPACE " + b, b <= 1 ? 0 : -2004, parsed(gray(), 4, b));
            check.due("byte 5 is " + b, b == 0 ? 0 : -2005, parsed(gray(), 5, b));
            check.due("byte 7 is " + b, b == 0 ? 0 : -2007, parsed(gray(), 7, b));
        }
    }

    private static void rule2Entries() {
        check.says("2, place 6: T, 1 .. 12; 8 + 4T is not more than SIZE.");
        for (int t = 0; t <= 255; t++) {
            // entry 0 has its data at 12, which lies among the entries when T is more than 1
            int want = t < 1 || t > 12 ? -2006 : t == 1 ? 0 : -4009;
            check.due("T " + t + " of 256 bytes", want, parsed(graySized(256), 6, t));
        }
        for (int t = 1; t <= 12; t++) {
            for (int size = 12; size <= 64; size += 4) {
                int want = 8 + 4 * t > size ? -2006 : t == 1 && size > 12 ? 0 : -4009;
                check.due("T " + t + " of " + size + " bytes", want, parsed(Arrays.copyOf(graySized(Math.max(16, size)), size), 1, size, 6, t));
            }
        }
        check.due("twelve entries", 0, parsed(twelve().bytes()));
    }

    /** Every signature once, by falling signature. */
    private static Draft twelve() {
        Draft d = new Draft(2, 3, 0).white(1, 2, 3).entry(11, Draft.still());
        for (int s = 10; s >= 6; s--) {
            d.shared(s, 11);
        }
        return d.entry(5, Draft.unit()).entry(4, 1, 0).shared(3, 4).shared(2, 4).shared(1, 4);
    }

    private static void rule2Order() {
        check.says("2, place p, for p = 2, 3, .. 7 in this order");
        int[] wrong = {0, 0, 3, 2, 2, 1, 0, 1};
        for (int p = 2; p <= 7; p++) {
            for (int q = p; q <= 7; q++) {
                check.due("bytes " + p + " and " + q + " wrong", -2000 - p, parsed(gray(), q, wrong[q], p, wrong[p]));
            }
        }
        check.due("T too great for SIZE, and byte 7 wrong", -2006, parsed(gray(), 6, 3, 7, 1));
        check.due("byte 5 wrong, and T too great for SIZE", -2005, parsed(gray(), 6, 3, 5, 1));
    }

    private static void rule3() {
        check.says("3, place t: the signature is 1 .. 12");
        int[] b = new Draft(2, 1, 0).entry(1, 1, 0).entry(2, 1, 0).bytes();
        for (int s = 0; s <= 255; s++) {
            int want = s < 1 || s > 12 || s == 1 ? -3012 : s <= 4 ? 0 : rule(7, b[13]);
            check.due("signature " + s + " behind GRAY", want, parsed(b, 12, s));
            int first = s < 1 || s > 12 ? -3008 : s == 1 ? 0 : s <= 4 ? -9003 : -7012;
            check.due("signature " + s + " alone", first, parsed(gray(), 8, s));
        }
    }

    private static void rule3Again() {
        check.says("3, place t: .. no earlier entry has it.");
        int[] b = twelve().bytes();
        for (int k = 1; k < 12; k++) {
            for (int j = 0; j < k; j++) {
                check.due("entry " + k + " as entry " + j, rule(3, 8 + 4 * k), parsed(b, 8 + 4 * k, b[8 + 4 * j]));
            }
        }
    }

    private static void rule4Offset() {
        check.says("4, place t + 1: o is a multiple of 4 and at least 8 + 4T .. o + l is not more than SIZE.");
        int[] b = graySized(256);
        for (int o = 0; o <= 255; o++) {
            int[] moved = b.clone();
            moved[9] = o;
            if (o >= 12 && o < 255) {
                moved[o] = 1;
                moved[o + 1] = 0;
            }
            check.due("OFFSET " + o, o % 4 == 0 && o >= 12 ? 0 : -4009, parsed(moved));
        }
        int[] two = Arrays.copyOf(gray(), 28);
        int[] entries = {0, 28, 2, 1, 0, 0, 2, 0, 1, 16, 2, 0, 2, 20, 2, 0, 1, 0, 0, 0, 1, 0, 0, 0, 0, 0, 0, 0};
        System.arraycopy(entries, 0, two, 0, 28);
        check.due("two entries", 0, parsed(two));
        check.due("OFFSET 12 with two entries", -4013, parsed(two, 13, 12));
        check.due("OFFSET 0 with two entries", -4013, parsed(two, 13, 0));
        check.due("OFFSET 18 with two entries", -4013, parsed(two, 13, 18));
        check.due("the last OFFSET with room for two bytes", rule(7, 24), parsed(two, 13, 24));
        check.due("OFFSET at SIZE", -4013, parsed(two, 13, 28));
        check.due("OFFSET behind SIZE", -4013, parsed(two, 13, 252));
    }

    private static void rule4BehindEntries() {
        check.says("4, place t + 1: o is .. at least 8 + 4T");
        for (int t = 1; t <= 12; t++) {
            int[] b = graySized(256);
            b[6] = t;
            // all entries alike, so that rule 3 stops the second one when the first one is right
            for (int k = 0; k < t; k++) {
                System.arraycopy(new int[] {1, 8 + 4 * t, 2, 0}, 0, b, 8 + 4 * k, 4);
            }
            b[8 + 4 * t] = 1;
            b[9 + 4 * t] = 0;
            check.due("OFFSET just behind " + t + " entries", t == 1 ? 0 : -3012, parsed(b));
            check.due("OFFSET of the last of " + t + " entries", -4009, parsed(b, 9, 4 + 4 * t));
            check.due("OFFSET of the first of " + t + " entries", -4009, parsed(b, 9, 8));
        }
    }

    private static void rule4Length() {
        check.says("4, place t + 1: .. l is at least 2, o + l is not more than SIZE.");
        for (int l = 0; l <= 255; l++) {
            int want = l < 2 || l > 4 ? -4009 : l == 2 ? 0 : -8013;
            check.due("LENGTH " + l + " at 12 of 16", want, parsed(gray(), 10, l));
        }
        int[] end = graySized(256);
        end[9] = 252;
        end[252] = 1;
        for (int l = 0; l <= 255; l++) {
            int want = l < 2 || l > 4 ? -4009 : l == 2 ? 0 : rule(8, 253);
            check.due("LENGTH " + l + " at 252 of 256", want, parsed(end, 10, l));
        }
        int[] whole = graySized(256);
        check.due("LENGTH 244 at 12 of 256", -8013, parsed(whole, 10, 244));
        check.due("LENGTH 245 at 12 of 256", -4009, parsed(whole, 10, 245));
    }

    private static void rule5() {
        check.says("5, place t + 3: the entry's last byte is 0.");
        int[] b = twelve().bytes();
        for (int k = 0; k < 12; k++) {
            for (int last : new int[] {1, 128, 255}) {
                check.due("last byte " + last + " of entry " + k, rule(5, 11 + 4 * k), parsed(b, 11 + 4 * k, last));
            }
        }
    }

    /** Three entries GRAY, RED, GREEN; data of LENGTH 6 (POWER) at 20, 28 and 36 of 44 bytes. */
    private static int[] three() {
        return new Draft(2, 1, 0).entry(1, Draft.power(1, 0, 0)).entry(2, Draft.power(2, 0, 0))
            .entry(3, Draft.power(3, 0, 0)).bytes();
    }

    private static void rule6() {
        check.says("6, place t + 1: each earlier entry either has the same OFFSET and the same LENGTH, or no byte lies in the data of both.");
        int[] b = three();
        check.due("apart", 0, parsed(b));
        check.due("the third has the data of the first", 0, parsed(b, 17, 20));
        check.due("the third has the data of the second", 0, parsed(b, 17, 28));
        check.due("all have the same data", 0, parsed(b, 13, 20, 17, 20));
        check.due("same OFFSET, LENGTH less by one", -6013, parsed(b, 13, 20, 14, 5));
        check.due("same OFFSET, LENGTH more by one", -6013, parsed(b, 13, 20, 14, 7));
        check.due("same LENGTH, OFFSET more by four", -6013, parsed(b, 13, 24));
        check.due("the third reaches into the first", -6017, parsed(b, 17, 24, 18, 2));
        check.due("the third reaches into the second", -6017, parsed(b, 17, 32, 18, 2));
        check.due("the third begins before the second and has its first byte", -6017, parsed(b, 17, 24, 18, 5, 9, 36));
        check.due("the third begins before the second and ends before it", rule(8, 25),
            parsed(b, 17, 24, 18, 4, 9, 36, 24, 1, 25, 0));
        check.due("the third holds all of the second", -6017, parsed(b, 17, 24, 18, 16, 9, 36));
        check.due("the third lies in the second", -6017, parsed(b, 14, 14, 29, 6, 28, 1, 17, 32, 18, 4));
        int[] close = new Draft(2, 1, 0).entry(2, Draft.samples(1, 2, 3)).entry(1, Draft.samples(7, 7, 7)).bytes();
        check.due("one begins where the other ends", 0, parsed(close));
        check.due("the other way round", 0, parsed(close, 9, close[13], 13, close[9]));
        check.due("one byte too long", -6013, parsed(close, 9, close[13], 13, close[9], 14, 9));
    }

    private static void rule7() {
        check.says("7, place o: the type is one of those for the signature.");
        int[][] right = {{1, 2}, {1, 2}, {1, 2}, {1, 2}, {3}, {4}, {4}, {4}, {4}, {4}, {4}, {5}};
        for (int s = 2; s <= 12; s++) {
            int[] b = Arrays.copyOf(new Draft(2, 1, 0).entry(1, 1, 0).entry(s, 0, 255).bytes(), 32);
            b[1] = 32;
            for (int type = 0; type <= 255; type++) {
                boolean known = false;
                for (int t : right[s - 1]) {
                    known = known || t == type;
                }
                int want = known ? rule(8, b[13] + 1) : rule(7, b[13]);
                check.due("type " + type + " for signature " + s, want, parsed(b, b[13], type));
            }
        }
        for (int type = 0; type <= 255; type++) {
            int want = type == 1 ? 0 : type == 2 ? -8013 : -7012;
            check.due("type " + type + " for GRAY", want, parsed(gray(), 12, type));
        }
    }

    private static void rule7Shared() {
        check.says("7, place o: the type is one of those for the signature (with data of an earlier entry too).");
        int[][] data = {Draft.samples(), Draft.unit(), Draft.still(), Draft.words(5, 0, 1, 2, 3)};
        int[] first = {2, 5, 6, 12};
        int[] second = {4, 0, 10, 0};
        for (int i = 0; i < 4; i++) {
            for (int j = 0; j < 4; j++) {
                if (i == j && second[i] == 0) {
                    continue;
                }
                int s = i == j ? second[i] : first[j];
                int[] b = new Draft(2, 1, 0).entry(1, 1, 0).entry(first[i], data[i]).shared(s, first[i]).bytes();
                check.due("signature " + s + " with the data of " + first[i], i == j ? 0 : rule(7, b[17]), parsed(b));
            }
        }
    }

    /** An element for a signature, behind GRAY: 0 when it is kept, 8 when rule 8 is broken, at the right place. */
    private static int element(int signature, int type, int byte1, int length) {
        int[] b = graySized(256);
        int[] entries = {2, 0, 1, 16, 2, 0, signature, 20, length, 0, 1, 0, 0, 0, type, byte1};
        System.arraycopy(entries, 0, b, 6, entries.length);
        int answer = parsed(b);
        return answer == -8021 ? 8 : answer;
    }

    /** All LENGTHs that fit behind a byte 1. */
    private static void dueLengths(int signature, int type, int byte1, int right) {
        for (int l = 2; l <= 236; l++) {
            check.due("type " + type + ", byte 1 is " + byte1 + ", LENGTH " + l, l == right ? 0 : 8, element(signature, type, byte1, l));
        }
    }

    private static void rule8Samples() {
        check.says("1 SAMPLES: byte 1 is n, 0 or 2 .. 24; then n words; LENGTH is 2 + 2n.");
        for (int n = 0; n <= 255; n++) {
            int length = 2 + 2 * n;
            if (length <= 236) {
                check.due("n = " + n, n == 1 || n > 24 ? 8 : 0, element(2, 1, n, length));
            }
        }
        for (int n : new int[] {0, 1, 2, 3, 23, 24, 25, 128, 255}) {
            dueLengths(3, 1, n, n == 1 || n > 24 ? 0 : 2 + 2 * n);
        }
    }

    private static void rule8Power() {
        check.says("2 POWER: byte 1 is g, 1 .. 4; then the words c and d; LENGTH is 6.");
        for (int g = 0; g <= 255; g++) {
            check.due("g = " + g, g >= 1 && g <= 4 ? 0 : 8, element(4, 2, g, 6));
        }
        dueLengths(2, 2, 1, 6);
        dueLengths(2, 2, 4, 6);
    }

    private static void rule8Matrix() {
        check.says("3 MATRIX: byte 1 is 0; then nine signed words; LENGTH is 20.");
        for (int b = 0; b <= 255; b++) {
            check.due("byte 1 is " + b, b == 0 ? 0 : 8, element(5, 3, b, 20));
        }
        dueLengths(5, 3, 0, 20);
    }

    private static void rule8Grid() {
        check.says("4 GRID: byte 1 is g, 2 or 3; then 3 * g * g * g bytes; LENGTH is 2 + 3 * g * g * g.");
        for (int s = 6; s <= 11; s++) {
            for (int g = 0; g <= 4; g++) {
                check.due("g = " + g, g == 2 || g == 3 ? 0 : 8, element(s, 4, g, 2 + 3 * g * g * g));
            }
        }
        dueLengths(6, 4, 2, 26);
        dueLengths(11, 4, 3, 83);
        dueLengths(7, 4, 255, 0);
    }

    private static void rule8Point() {
        check.says("5 POINT: byte 1 is 0; then three words; LENGTH is 8.");
        for (int b = 0; b <= 255; b++) {
            check.due("byte 1 is " + b, b == 0 ? 0 : 8, element(12, 5, b, 8));
        }
        dueLengths(12, 5, 0, 8);
    }

    private static void rule9OneChannel() {
        check.says("9, place 3: with one channel there is an entry GRAY");
        int[] b = twelve().bytes();
        check.due("every entry", 0, parsed(b, 3, 1));
        // all entries but GRAY, which comes last
        int[] fewer = b.clone();
        fewer[6] = 11;
        check.due("every entry but GRAY", -9003, parsed(fewer, 3, 1));
        check.due("in LAB", -9003, parsed(fewer, 3, 1, 4, 1));
        check.due("GRAY alone in LAB", 0, parsed(gray(), 4, 1));
        check.due("RED alone", -9003, parsed(gray(), 8, 2));
    }

    private static void rule9ThreeChannels() {
        check.says("9, place 3: with three channels there is an entry FORTH0, or the SPACE is XYZ and there are entries RED, GREEN, BLUE and MATRIX.");
        for (int space = 0; space <= 1; space++) {
            for (int set = 0; set < 64; set++) {
                Draft d = new Draft(2, 3, space).entry(1, 1, 0);
                for (int s = 2; s <= 4; s++) {
                    if ((set >> s - 2 & 1) == 1) {
                        d.shared(s, 1);
                    }
                }
                if ((set & 8) != 0) {
                    d.entry(5, Draft.unit());
                }
                if ((set & 16) != 0) {
                    d.entry(6, Draft.still());
                }
                if ((set & 32) != 0) {
                    d.entry(7, Draft.still()).shared(8, 7).shared(9, 7).shared(10, 7).shared(11, 7);
                }
                boolean way = (set & 16) != 0 || space == 0 && (set & 15) == 15;
                check.due("space " + space + ", set " + set, way ? 0 : -9003, parsed(d.bytes()));
            }
        }
    }

    private static void orderOfRules() {
        check.says("RULES. They are tested in the order given; the first one that is broken counts, with its place");
        int[] b = three();
        // for each rule: what breaks it, at entry 1 where it is a rule of entries
        int[][] breaks = {{0, 9}, {7, 9}, {12, 13}, {14, 1}, {15, 9}, {13, 24}, {28, 9}, {29, 9}, {8, 4}};
        int[] places = {0, 7, 12, 13, 15, 13, 28, 29, 3};
        for (int i = 0; i < 9; i++) {
            for (int j = i; j < 9; j++) {
                if (i == 5 && j == 5 || i != 5 && j != 5) {
                    check.due("rules " + (i + 1) + " and " + (j + 1), rule(i + 1, places[i]),
                        parsed(b, breaks[j][0], breaks[j][1], breaks[i][0], breaks[i][1]));
                }
            }
        }
        check.due("rules 4 and 6", -4013, parsed(b, 13, 24, 14, 1));
        check.due("rules 5 and 6", -5015, parsed(b, 13, 24, 15, 1));
        check.due("rules 6 and 7", -6013, parsed(b, 13, 24, 24, 9));
        check.due("rules 6 and 8", -6013, parsed(b, 13, 20, 14, 4));
        check.due("rules 6 and 9", -6013, parsed(b, 13, 24, 8, 4));
    }

    private static void orderOfEntries() {
        check.says("for one entry after the other (all of 3 to 8 for an entry before the next entry is looked at)");
        int[] b = three();
        // what breaks rules 3 to 8 at entry 1, and at entry 2
        int[][] first = {{12, 13}, {14, 1}, {15, 9}, {13, 24}, {28, 9}, {29, 9}};
        int[][] second = {{16, 13}, {18, 1}, {19, 9}, {17, 24}, {36, 9}, {37, 9}};
        int[] want = {-3012, -4013, -5015, -6013, -7028, -8029};
        for (int i = 0; i < 6; i++) {
            for (int j = 0; j < 6; j++) {
                check.due("rule " + (i + 3) + " at entry 1, rule " + (j + 3) + " at entry 2", want[i],
                    parsed(b, first[i][0], first[i][1], second[j][0], second[j][1]));
            }
        }
    }

    private static void unseenBytes() {
        check.says("Bytes that belong neither to the first 8 nor to entries nor to data are not looked at.");
        int[] b = graySized(64);
        b[9] = 20;
        b[20] = 1;
        b[21] = 0;
        for (int fill : new int[] {0, 1, 128, 255}) {
            int[] c = b.clone();
            for (int i = 12; i < 64; i++) {
                if (i != 20 && i != 21) {
                    c[i] = fill;
                }
            }
            check.due("all others are " + fill, 0, parsed(c));
        }
        ColourLinker x = new ColourLinker();
        Draft.load(x, b);
        x.parse();
        x.set(22, 255);
        x.set(63, 255);
        x.parse();
        check.due("the same profile", true, x.same(0, 1));
    }

    private static void full() {
        check.says("parse: FULL when six are kept already (whatever the buffer is)");
        ColourLinker x = Draft.with(check, Draft.gray(0), Draft.gray(1), Draft.shaped(), Draft.gray(0), Draft.gray(1));
        x.clear();
        check.due("an empty buffer with five profiles", -1000, x.parse());
        check.due("the sixth profile", 5, Draft.gray(0).parseInto(x));
        check.due("profiles", 6, x.profiles());
        check.due("a good buffer with six profiles", -8, x.parse());
        x.set(2, 9);
        check.due("a wrong buffer with six profiles", -8, x.parse());
        check.due("its byte", 9, x.at(2));
        x.clear();
        check.due("an empty buffer with six profiles", -8, x.parse());
        check.due("profiles at last", 6, x.profiles());
        x.write(2);
        check.due("what was written with six profiles", -8, x.parse());
    }

    private static void bufferStays() {
        check.says("parse: The buffer stays as it is.");
        int[] b = Draft.shaped().bytes();
        for (int i = 0; i < 3; i++) {
            ColourLinker x = new ColourLinker();
            if (i == 1) {
                b[7] = 1;
            }
            if (i == 2) {
                b[7] = 0;
                Draft.load(x, gray());
                for (int k = 0; k < 6; k++) {
                    x.parse();
                }
            }
            Draft.load(x, b);
            check.due("parse", i == 0 ? 0 : i == 1 ? -2007 : -8, x.parse());
            check.due("the buffer", true, Arrays.equals(b, Draft.bufferOf(x)));
        }
        ColourLinker y = Draft.with(check, Draft.gray(0, 5, 6));
        y.set(14, 77);
        check.due("a profile is kept as it was read", 5, y.curve(0, 1, 0, false));
        y.clear();
        check.due("also when the buffer is empty", 5, y.curve(0, 1, 0, false));
    }

    private static void numbers() {
        check.says("At most .. 6 profiles are kept, for ever, numbered from 0 on in the order in which they came.");
        ColourLinker x = new ColourLinker();
        for (int i = 0; i < 6; i++) {
            x.clear();
            check.due("a refused parse", -1000, x.parse());
            check.due("profiles", i, x.profiles());
            check.due("parse", i, Draft.gray(0, i, 9).parseInto(x));
            check.due("profiles", i + 1, x.profiles());
        }
        for (int i = 0; i < 6; i++) {
            check.due("curve of profile " + i, i, x.curve(i, 1, 0, false));
        }
    }
}
