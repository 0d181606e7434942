/** The boundary cases of promises 1 to 6 and of THE BUFFER, a method for each sentence. */
public final class BufferEdgeTest {
    private static final Check check = new Check();
    private static final int LEAST = Integer.MIN_VALUE;
    private static final int GREATEST = Integer.MAX_VALUE;

    public static void main(String[] args) {
        newObject();
        lowestBytes();
        wrongNumbers();
        fullBuffer();
        setWithoutByte();
        setWithoutLevel();
        clearAnything();
        sizes();
        atWithoutByte();
        check.end();
    }

    private static ColourLinker filled(int bytes) {
        ColourLinker x = new ColourLinker();
        for (int i = 0; i < bytes; i++) {
            x.add(i, 1);
        }
        return x;
    }

    private static void newObject() {
        check.says("ColourLinker(): An empty buffer, no profiles, no links.");
        ColourLinker x = new ColourLinker();
        check.due("size", 0, x.size());
        check.due("at(0)", -1, x.at(0));
        check.due("set(0, 0)", false, x.set(0, 0));
        check.due("profiles", 0, x.profiles());
        check.due("elements(0)", -1, x.elements(0));
        check.due("same(0, 0)", false, x.same(0, 0));
        check.due("write(0)", -1, x.write(0));
        check.due("curve", -1, x.curve(0, 1, 0, false));
        check.due("link", -1, x.link(0, 0, 0, false));
        check.due("extend", -1, x.extend(0, 0, 0, false));
        check.due("links", 0, x.links());
        check.due("pieces(0)", -1, x.pieces(0));
        check.due("piece(0, 0)", -1, x.piece(0, 0));
        check.due("convert", -1, x.convert(0, 0, 0, 0));
        check.due("after", -1, x.after(0, 0, 0, 0, 0));
        check.due("work", 0, x.work());
        check.due("parse", -1000, x.parse());
        Draft.gray(0).parseInto(x);
        ColourLinker other = new ColourLinker();
        check.due("size of another new object", 0, other.size());
        check.due("profiles of another new object", 0, other.profiles());
    }

    private static void lowestBytes() {
        check.says("Appends the n lowest bytes of w to the buffer, the highest one of them first, and answers true");
        int[] words = {0, -1, LEAST, GREATEST, 0x80, 0x8000, 0x800000, 0x01020304, 0xFEDCBA98};
        for (int w : words) {
            for (int n = 1; n <= 4; n++) {
                ColourLinker x = new ColourLinker();
                check.due("add(" + w + ", " + n + ")", true, x.add(w, n));
                check.due("size", n, x.size());
                long rest = w & 0xFFFFFFFFL;
                for (int p = n - 1; p >= 0; p--) {
                    check.due("byte " + p + " of " + w, rest % 256, x.at(p));
                    rest /= 256;
                }
            }
        }
    }

    private static void wrongNumbers() {
        check.says("false when n is not 1 .. 4");
        for (int bytes : new int[] {0, 3, 256}) {
            for (int n : new int[] {0, 5, 6, 8, -1, -4, 256, LEAST, GREATEST}) {
                ColourLinker x = filled(bytes);
                check.due("add(-1, " + n + ")", false, x.add(-1, n));
                check.due("size after it", bytes, x.size());
                check.due("at the end after it", -1, x.at(bytes));
            }
        }
    }

    private static void fullBuffer() {
        check.says("false when .. the buffer would have more than 256 bytes");
        for (int bytes = 250; bytes <= 256; bytes++) {
            for (int n = 1; n <= 4; n++) {
                ColourLinker x = filled(bytes);
                boolean fits = bytes + n <= 256;
                check.due("add of " + n + " to " + bytes, fits, x.add(-1, n));
                check.due("size after it", fits ? bytes + n : bytes, x.size());
                check.due("the first byte behind those there", fits ? 255 : -1, x.at(bytes));
                check.due("the last byte before", bytes - 1, x.at(bytes - 1));
            }
        }
    }

    private static void setWithoutByte() {
        check.says("set: false when there is no byte p");
        for (int bytes : new int[] {0, 1, 4, 255, 256}) {
            ColourLinker x = filled(bytes);
            for (int p : new int[] {bytes, bytes + 1, 256, 257, -1, -256, LEAST, GREATEST}) {
                check.due("set(" + p + ", 9) of " + bytes, p >= 0 && p < bytes, x.set(p, 9));
            }
            check.due("size after it", bytes, x.size());
            if (bytes > 0) {
                check.due("set of the last byte", true, x.set(bytes - 1, 77));
                check.due("the last byte", 77, x.at(bytes - 1));
                check.due("set of the first byte", true, x.set(0, 78));
                check.due("the first byte", 78, x.at(0));
            }
        }
        ColourLinker y = filled(8);
        y.clear();
        y.add(0x01020304, 4);
        check.due("set of a byte that was there before clear", false, y.set(4, 9));
        y.add(0, 1);
        check.due("such a byte when it is there again", 0, y.at(4));
    }

    private static void setWithoutLevel() {
        check.says("set: false when .. b is not 0 .. 255");
        ColourLinker x = filled(5);
        for (int b : new int[] {-1, 256, 257, 65536, -255, LEAST, GREATEST}) {
            check.due("set(2, " + b + ")", false, x.set(2, b));
            check.due("byte 2 after it", 2, x.at(2));
        }
        for (int b = 0; b <= 255; b++) {
            if (b == 128) {
                x = filled(5);
            }
            check.due("set(2, " + b + ")", true, x.set(2, b));
            check.due("byte 2", b, x.at(2));
        }
        check.due("the byte before", 1, x.at(1));
        check.due("the byte behind", 3, x.at(3));
    }

    private static void clearAnything() {
        check.says("clear: Makes the buffer empty.");
        for (int bytes : new int[] {0, 1, 255, 256}) {
            ColourLinker x = filled(bytes);
            x.clear();
            check.due("size after clear of " + bytes, 0, x.size());
            check.due("at(0)", -1, x.at(0));
            check.due("set(0, 0)", false, x.set(0, 0));
            check.due("parse", -1000, x.parse());
            check.due("add", true, x.add(0x01020304, 4));
            check.due("size after it", 4, x.size());
            check.due("at(3)", 4, x.at(3));
        }
        ColourLinker kept = Draft.with(check, Draft.gray(0));
        kept.link(0, 0, 0, false);
        kept.convert(0, 1, 0, 0);
        kept.clear();
        check.due("profiles", 1, kept.profiles());
        check.due("links", 1, kept.links());
        check.due("work", 2, kept.work());
        check.due("curve", 5, kept.curve(0, 1, 5, false));
        kept.convert(0, 1, 0, 0);
        check.due("work for the same colour", 2, kept.work());
    }

    private static void sizes() {
        check.says("size: The number of bytes in the buffer.");
        ColourLinker x = new ColourLinker();
        for (int i = 1; i <= 64; i++) {
            x.add(0, 4);
            check.due("size", 4 * i, x.size());
        }
        x.add(0, 1);
        check.due("size when full", 256, x.size());
        x.set(0, 1);
        x.parse();
        check.due("size after set and parse", 256, x.size());
        Draft.gray(0).parseInto(x);
        check.due("size after the parse of a profile", 16, x.size());
        x.add(0, 3);
        x.write(0);
        check.due("size after write", 16, x.size());
        x.write(1);
        check.due("size after a refused write", 16, x.size());
    }

    private static void atWithoutByte() {
        check.says("at: Byte p of the buffer; MISSING when there is none.");
        for (int bytes : new int[] {0, 1, 5, 255, 256}) {
            ColourLinker x = filled(bytes);
            for (int p : new int[] {bytes, bytes + 1, 256, 257, -1, -256, LEAST, GREATEST}) {
                check.due("at(" + p + ") of " + bytes, p >= 0 && p < bytes ? p : -1, x.at(p));
            }
            for (int p : new int[] {0, bytes - 1}) {
                check.due("at(" + p + ") of " + bytes, p >= 0 && p < bytes ? p : -1, x.at(p));
            }
        }
        ColourLinker y = Draft.with(check, Draft.gray(0));
        for (int i = 0; i < 60; i++) {
            y.add(-1, 4);
        }
        y.write(0);
        check.due("a byte that was there before write", -1, y.at(16));
        check.due("the last byte that was written", 0, y.at(15));
    }
}
