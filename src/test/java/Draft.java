import java.util.ArrayList;
import java.util.List;

/** A profile to be put into a buffer: entries in the order in which they are told, data behind them. */
final class Draft {
    private static final int[] D = {31595, 32768, 27030};
    private final int[] head;
    private final List<int[]> entries = new ArrayList<>();
    private final List<int[]> data = new ArrayList<>();

    Draft(int cls, int channels, int space) {
        head = new int[] {0, 0, cls, channels, space, 0, 0, 0};
    }

    /** An entry with an element of its own. */
    Draft entry(int signature, int... bytes) {
        entries.add(new int[] {signature, data.size()});
        data.add(bytes);
        return this;
    }

    /** An entry that has its element together with an earlier entry. */
    Draft shared(int signature, int earlier) {
        for (int[] e : entries) {
            if (e[0] == earlier) {
                entries.add(new int[] {signature, e[1]});
                return this;
            }
        }
        throw new IllegalArgumentException("no entry " + earlier);
    }

    /** RED, GREEN and BLUE with one curve. */
    Draft colours(int... curve) {
        return entry(2, curve).shared(3, 2).shared(4, 2);
    }

    Draft white(int x, int y, int z) {
        return entry(12, words(5, 0, x, y, z));
    }

    static int[] words(int type, int b, int... words) {
        int[] bytes = new int[2 + 2 * words.length];
        bytes[0] = type;
        bytes[1] = b;
        for (int i = 0; i < words.length; i++) {
            bytes[2 + 2 * i] = words[i] >> 8 & 255;
            bytes[3 + 2 * i] = words[i] & 255;
        }
        return bytes;
    }

    static int[] samples(int... e) {
        return words(1, e.length, e);
    }

    static int[] power(int g, int c, int d) {
        return words(2, g, c, d);
    }

    static int[] matrix(int... m) {
        return words(3, 0, m);
    }

    static int[] unit() {
        return matrix(4096, 0, 0, 0, 4096, 0, 0, 0, 4096);
    }

    /** A grid whose nodes all are one colour. */
    static int[] flat(int g, int b0, int b1, int b2) {
        int[] bytes = new int[2 + 3 * g * g * g];
        bytes[0] = 4;
        bytes[1] = g;
        for (int i = 2; i < bytes.length; i += 3) {
            bytes[i] = b0;
            bytes[i + 1] = b1;
            bytes[i + 2] = b2;
        }
        return bytes;
    }

    /** A grid of two nodes a side that changes nothing. */
    static int[] still() {
        int[] bytes = new int[26];
        bytes[0] = 4;
        bytes[1] = 2;
        for (int n = 0; n < 8; n++) {
            bytes[2 + 3 * n] = n >= 4 ? 255 : 0;
            bytes[3 + 3 * n] = n / 2 % 2 == 1 ? 255 : 0;
            bytes[4 + 3 * n] = n % 2 == 1 ? 255 : 0;
        }
        return bytes;
    }

    int[] bytes() {
        int at = 8 + 4 * entries.size();
        int[] offsets = new int[data.size()];
        for (int i = 0; i < offsets.length; i++) {
            offsets[i] = at;
            at = (at + data.get(i).length + 3) / 4 * 4;
        }
        int[] all = new int[at];
        System.arraycopy(head, 0, all, 0, 8);
        all[0] = at / 256;
        all[1] = at % 256;
        all[6] = entries.size();
        for (int k = 0; k < entries.size(); k++) {
            int[] e = entries.get(k);
            all[8 + 4 * k] = e[0];
            all[9 + 4 * k] = offsets[e[1]];
            all[10 + 4 * k] = data.get(e[1]).length;
        }
        for (int i = 0; i < offsets.length; i++) {
            System.arraycopy(data.get(i), 0, all, offsets[i], data.get(i).length);
        }
        return all;
    }

    /** Four bytes a call, as an object is good for 512 calls. */
    static void load(ColourLinker x, int[] bytes) {
        x.clear();
        int i = 0;
        for (; i + 4 <= bytes.length; i += 4) {
            x.add(bytes[i] << 24 | bytes[i + 1] << 16 | bytes[i + 2] << 8 | bytes[i + 3], 4);
        }
        for (; i < bytes.length; i++) {
            x.add(bytes[i], 1);
        }
    }

    /** A new object with the profiles of the drafts, numbered from 0 on. */
    static ColourLinker with(Check check, Draft... drafts) {
        ColourLinker x = new ColourLinker();
        for (int i = 0; i < drafts.length; i++) {
            check.due("parse of draft " + i, i, drafts[i].parseInto(x));
        }
        return x;
    }

    int parseInto(ColourLinker x) {
        load(x, bytes());
        return x.parse();
    }

    /** The buffer's bytes, as at() tells them. */
    static int[] bufferOf(ColourLinker x) {
        int[] bytes = new int[x.size()];
        for (int i = 0; i < bytes.length; i++) {
            bytes[i] = x.at(i);
        }
        return bytes;
    }

    /** One channel, a straight curve. */
    static Draft gray(int space) {
        return new Draft(2, 1, space).entry(1, 1, 0);
    }

    /** One channel, a curve of samples. */
    static Draft gray(int space, int... e) {
        return new Draft(2, 1, space).entry(1, samples(e));
    }

    /** Three channels, both ways a grid of two nodes a side that changes nothing. */
    static Draft still(int space) {
        return new Draft(2, 3, space).entry(6, still()).shared(9, 6);
    }

    /** Three channels in XYZ, straight curves and the matrix. */
    static Draft shapedBy(int... m) {
        return new Draft(2, 3, 0).colours(1, 0).entry(5, matrix(m));
    }

    /** Three channels in XYZ whose ways have no piece. */
    static Draft plain() {
        return shapedBy(4096, 0, 0, 0, 4096, 0, 0, 0, 4096);
    }

    /** A display in XYZ that is undone exactly by its way back, up to rounding. */
    static Draft shaped() {
        return new Draft(2, 3, 0).colours(power(2, 0, 0))
                .entry(5, matrix(2048, 512, 512, 512, 3072, 256, 0, 256, 3072));
    }
}
