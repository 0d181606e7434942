import java.util.Arrays;

/**
 * Reads, checks and writes colour profiles, and joins them into links that turn a colour of one
 * profile's device into a colour of another profile's device.
 */
public final class ColourLinker {
    public static final int MISSING = -1;
    public static final int NO_INTENT = -2;
    public static final int ONE_WAY = -3;
    public static final int NO_WAY = -4;
    public static final int SINGULAR = -5;
    public static final int NOT_RISING = -6;
    public static final int NO_SCALE = -7;
    public static final int FULL = -8;
    public static final int LONG = -9;

    private static final int MOST_BYTES = 256;
    private static final int MOST_PROFILES = 6;
    private static final int MOST_LINKS = 16;
    private static final int MOST_PIECES = 24;
    /** A passage has at most seven pieces, so a full link and one passage more always fit. */
    private static final int CHAIN_ROOM = MOST_PIECES + 8;

    private static final int TOP = 65535;
    /** The level that 1.0 has in XYZ, which is also D1. */
    private static final int ONE = 32768;
    private static final int MIDDLE = 32896;
    private static final int[] D = {31595, 32768, 27030};

    private static final int XYZ = 0;
    private static final int LAB = 1;
    private static final int ABSOLUTE = 3;

    private static final int GRAY = 1;
    private static final int RED = 2;
    private static final int GREEN = 3;
    private static final int BLUE = 4;
    private static final int MATRIX = 5;
    private static final int FORTH0 = 6;
    private static final int BACK0 = 9;
    private static final int BACK2 = 11;
    private static final int WHITE = 12;
    private static final int SIGNATURES = 13;

    private static final int TYPE_SAMPLES = 1;
    private static final int TYPE_POWER = 2;
    private static final int TYPE_MATRIX = 3;
    private static final int TYPE_GRID = 4;
    private static final int TYPE_POINT = 5;

    private static final int KIND_CURVES = 1;
    private static final int KIND_MATRIX = 2;
    private static final int KIND_GRID = 3;
    private static final int KIND_SPREAD = 4;
    private static final int KIND_TO_LAB = 5;
    private static final int KIND_TO_XYZ = 6;
    private static final int KIND_SCALE = 7;
    private static final int KIND_BLACK = 8;
    private static final int KIND_GATHER = 9;
    private static final int KIND_MATRIX_BACK = 10;
    private static final int KIND_CURVES_BACK = 11;

    private final Buffer buffer = new Buffer();
    private final Profile[] kept = new Profile[MOST_PROFILES];
    private int keptCount;
    private final Link[] made = new Link[MOST_LINKS];
    private int madeCount;
    private final Piece toLab = new LabXyz(KIND_TO_LAB);
    private final Piece toXyz = new LabXyz(KIND_TO_XYZ);
    /** The pieces of a link that is being made; only the first chainCount count. */
    private final Piece[] chain = new Piece[CHAIN_ROOM];
    private int chainCount;
    /** The colour that a call works on. */
    private final int[] colour = new int[3];
    private int piecesRun;

    public ColourLinker() {
    }

    public boolean add(int w, int n) {
        return buffer.append(w, n);
    }

    public boolean set(int p, int b) {
        return buffer.replace(p, b);
    }

    public void clear() {
        buffer.count = 0;
    }

    public int size() {
        return buffer.count;
    }

    public int at(int p) {
        return buffer.byteAt(p);
    }

    public int parse() {
        if (keptCount >= MOST_PROFILES) {
            return FULL;
        }
        int fault = buffer.fault();
        if (fault != 0) {
            return fault;
        }
        Profile profile = new Profile(buffer.plainForm(), buffer.countElements());
        profile.measureBlack();
        kept[keptCount] = profile;
        keptCount++;
        return keptCount - 1;
    }

    public int profiles() {
        return keptCount;
    }

    public int elements(int p) {
        Profile profile = profileAt(p);
        return profile == null ? MISSING : profile.elementCount;
    }

    public boolean same(int p, int q) {
        Profile one = profileAt(p);
        Profile other = profileAt(q);
        return one != null && other != null && one.isLike(other);
    }

    public int write(int p) {
        Profile profile = profileAt(p);
        if (profile == null) {
            return MISSING;
        }
        buffer.load(profile.plain);
        return buffer.count;
    }

    public int curve(int p, int s, int x, boolean inverse) {
        Profile profile = profileAt(p);
        if (profile == null || s < GRAY || s > BLUE || !isLevel(x)) {
            return MISSING;
        }
        Curve found = profile.curves[s];
        if (found == null) {
            return MISSING;
        }
        if (!inverse) {
            return found.valueAt(x);
        }
        return found.isRising() ? found.inverseAt(x) : MISSING;
    }

    public int link(int from, int to, int intent, boolean black) {
        return join(null, profileAt(from), profileAt(to), intent, black);
    }

    public int extend(int l, int to, int intent, boolean black) {
        Link base = linkAt(l);
        return base == null ? MISSING : join(base, base.to, profileAt(to), intent, black);
    }

    public int links() {
        return madeCount;
    }

    public int pieces(int l) {
        Link found = linkAt(l);
        return found == null ? MISSING : found.row.length;
    }

    public int piece(int l, int k) {
        Link found = linkAt(l);
        if (found == null || k < 0 || k >= found.row.length) {
            return MISSING;
        }
        return found.row[k].kind;
    }

    public long convert(int l, int a, int b, int c) {
        Link found = linkAt(l);
        if (found == null || !take(found, a, b, c)) {
            return MISSING;
        }
        long taken = packed(colour);
        if (taken != found.latestColour) {
            found.runFirst(found.row.length, colour);
            piecesRun += found.row.length;
            found.latestColour = taken;
            found.latestAnswer = packed(colour);
        }
        return found.latestAnswer;
    }

    public long after(int l, int k, int a, int b, int c) {
        Link found = linkAt(l);
        if (found == null || k < 0 || k > found.row.length || !take(found, a, b, c)) {
            return MISSING;
        }
        found.runFirst(k, colour);
        return packed(colour);
    }

    public int work() {
        return piecesRun;
    }

    private Profile profileAt(int p) {
        return p >= 0 && p < keptCount ? kept[p] : null;
    }

    private Link linkAt(int l) {
        return l >= 0 && l < madeCount ? made[l] : null;
    }

    /** Makes (a, b, c), as the link takes it, the colour to work on; false when it is none. */
    private boolean take(Link taker, int a, int b, int c) {
        boolean single = taker.first.channels() == 1;
        if (!isLevel(a) || !single && (!isLevel(b) || !isLevel(c))) {
            return false;
        }
        colour[0] = a;
        colour[1] = single ? 0 : b;
        colour[2] = single ? 0 : c;
        return true;
    }

    /** Makes, or finds again, the link of base's pieces (base may be null) and the passage a to b. */
    private int join(Link base, Profile a, Profile b, int intent, boolean black) {
        if (a == null || b == null) {
            return MISSING;
        }
        boolean asked = black && intent != ABSOLUTE;
        int refused = refusal(a, b, intent, asked);
        if (refused != 0) {
            return refused;
        }
        int known = findMade(base, a, b, intent, asked);
        if (known != MISSING) {
            return known;
        }
        chainCount = 0;
        chainLink(base);
        chainPassage(a, b, intent, asked);
        if (chainCount > MOST_PIECES) {
            return LONG;
        }
        if (madeCount >= MOST_LINKS) {
            return FULL;
        }
        made[madeCount] = new Link(base, a, b, intent, asked, chain, chainCount);
        madeCount++;
        return madeCount - 1;
    }

    /** What the passage is refused for, 0 when it is not. */
    private static int refusal(Profile a, Profile b, int intent, boolean asked) {
        if (intent < 0 || intent > ABSOLUTE) {
            return NO_INTENT;
        }
        if (b.isSourceAlone()) {
            return ONE_WAY;
        }
        Piece begin = b.backPiece(intent, 0);
        if (begin == null) {
            return NO_WAY;
        }
        if (begin instanceof Matrix m && m.isSingular()) {
            return SINGULAR;
        }
        if (b.backPiece(intent, 1) instanceof Curves c && !c.areRising()) {
            return NOT_RISING;
        }
        if (needsScale(a, b, intent) && b.whiteHasZero()) {
            return NO_SCALE;
        }
        if (asked && (a.blackLevel(intent) >= ONE || b.blackLevel(intent) >= ONE)) {
            return NO_SCALE;
        }
        return 0;
    }

    private static boolean needsScale(Profile a, Profile b, int intent) {
        return intent == ABSOLUTE && !a.hasWhiteOf(b);
    }

    private int findMade(Link base, Profile a, Profile b, int intent, boolean asked) {
        for (int i = 0; i < madeCount; i++) {
            if (made[i].wasMadeFrom(base, a, b, intent, asked)) {
                return i;
            }
        }
        return MISSING;
    }

    private void chainLink(Link base) {
        if (base == null) {
            return;
        }
        for (int k = 0; k < base.row.length; k++) {
            chainPiece(base.row[k]);
        }
    }

    private void chainPassage(Profile a, Profile b, int intent, boolean asked) {
        chainPiece(a.forthPiece(intent, 0));
        chainPiece(a.forthPiece(intent, 1));
        int reached = a.space();
        Piece adjust = adjustment(a, b, intent, asked);
        if (adjust != null) {
            chainPiece(reached == LAB ? toXyz : null);
            chainPiece(adjust);
            reached = XYZ;
        }
        if (reached != b.space()) {
            chainPiece(reached == LAB ? toXyz : toLab);
        }
        chainPiece(b.backPiece(intent, 0));
        chainPiece(b.backPiece(intent, 1));
    }

    private void chainPiece(Piece next) {
        if (next == null || next.leftOut || chainCount >= chain.length) {
            return;
        }
        chain[chainCount] = next;
        chainCount++;
    }

    /** The piece S of the passage, null when none is needed. */
    private static Piece adjustment(Profile a, Profile b, int intent, boolean asked) {
        if (needsScale(a, b, intent)) {
            return new Adjust(KIND_SCALE, a, b, intent);
        }
        if (asked && a.blackLevel(intent) != b.blackLevel(intent)) {
            return new Adjust(KIND_BLACK, a, b, intent);
        }
        return null;
    }

    private static boolean isLevel(int x) {
        return x >= 0 && x <= TOP;
    }

    private static long packed(int[] v) {
        return ((long) v[0] << 32) + ((long) v[1] << 16) + v[2];
    }

    private static int clip(long v) {
        return (int) Math.max(0L, Math.min((long) TOP, v));
    }

    /** N(num / den): the floor of the quotient and a half, as the greater of two equally near counts. */
    private static long nearest(long num, long den) {
        if (den == 0) {
            return 0;
        }
        long top = den < 0 ? -num : num;
        long bottom = den < 0 ? -den : den;
        return Math.floorDiv(2 * top + bottom, 2 * bottom);
    }

    private static int wordAt(int[] row, int place) {
        return 256 * row[place] + row[place + 1];
    }

    /** The list of bytes, and the rules for a profile in it. */
    private static final class Buffer {
        private final int[] row = new int[MOST_BYTES];
        private int count;

        boolean append(int w, int n) {
            if (n < 1 || n > 4 || count + n > MOST_BYTES) {
                return false;
            }
            for (int i = n - 1; i >= 0; i--) {
                row[count] = (w >>> (8 * i)) & 255;
                count++;
            }
            return true;
        }

        boolean replace(int p, int b) {
            if (p < 0 || p >= count || b < 0 || b > 255) {
                return false;
            }
            row[p] = b;
            return true;
        }

        int byteAt(int p) {
            return p >= 0 && p < count ? row[p] : MISSING;
        }

        void load(int[] bytes) {
            count = Math.min(bytes.length, MOST_BYTES);
            System.arraycopy(bytes, 0, row, 0, count);
        }

        /** The first broken rule as parse() answers it, 0 when all are kept. */
        int fault() {
            if (count < 12 || count % 4 != 0 || wordAt(row, 0) != count) {
                return broken(1, 0);
            }
            int fault = headFault();
            for (int k = 0; fault == 0 && k < row[6]; k++) {
                fault = entryFault(k);
            }
            if (fault == 0 && !hasWayForth()) {
                fault = broken(9, 3);
            }
            return fault;
        }

        private static int broken(int rule, int place) {
            return -(1000 * rule + place);
        }

        private int headFault() {
            for (int p = 2; p < 8; p++) {
                if (!isHeadByte(p, row[p])) {
                    return broken(2, p);
                }
            }
            return 0;
        }

        private boolean isHeadByte(int p, int b) {
            switch (p) {
                case 2:
                    return b == 1 || b == 2;
                case 3:
                    return b == 1 || b == 3;
                case 4:
                    return b == XYZ || b == LAB;
                case 6:
                    return b >= 1 && b <= 12 && 8 + 4 * b <= count;
                default:
                    return b == 0;
            }
        }

        /** Rules 3 to 8 for entry k; the entries before it have kept them already. */
        private int entryFault(int k) {
            int t = 8 + 4 * k;
            int signature = row[t];
            int offset = row[t + 1];
            int length = row[t + 2];
            if (signature < GRAY || signature > WHITE || hasEntry(signature, k)) {
                return broken(3, t);
            }
            if (offset % 4 != 0 || offset < 8 + 4 * row[6] || length < 2 || offset + length > count) {
                return broken(4, t + 1);
            }
            if (row[t + 3] != 0) {
                return broken(5, t + 3);
            }
            if (overlapsEarlier(k, offset, length)) {
                return broken(6, t + 1);
            }
            if (!isTypeFor(signature, row[offset])) {
                return broken(7, offset);
            }
            if (!isLengthFor(row[offset], row[offset + 1], length)) {
                return broken(8, offset + 1);
            }
            return 0;
        }

        /** Whether one of the first entries, as many as said, has the signature. */
        private boolean hasEntry(int signature, int entries) {
            for (int k = 0; k < entries; k++) {
                if (row[8 + 4 * k] == signature) {
                    return true;
                }
            }
            return false;
        }

        private boolean overlapsEarlier(int entry, int offset, int length) {
            for (int k = 0; k < entry; k++) {
                int o = row[9 + 4 * k];
                int l = row[10 + 4 * k];
                boolean shared = o == offset && l == length;
                boolean apart = o + l <= offset || offset + length <= o;
                if (!shared && !apart) {
                    return true;
                }
            }
            return false;
        }

        private static boolean isTypeFor(int signature, int type) {
            if (signature <= BLUE) {
                return type == TYPE_SAMPLES || type == TYPE_POWER;
            }
            if (signature == MATRIX) {
                return type == TYPE_MATRIX;
            }
            return type == (signature <= BACK2 ? TYPE_GRID : TYPE_POINT);
        }

        private static boolean isLengthFor(int type, int b, int length) {
            switch (type) {
                case TYPE_SAMPLES:
                    return b <= 24 && b != 1 && length == 2 + 2 * b;
                case TYPE_POWER:
                    return b >= 1 && b <= 4 && length == 6;
                case TYPE_MATRIX:
                    return b == 0 && length == 20;
                case TYPE_GRID:
                    return (b == 2 || b == 3) && length == 2 + 3 * b * b * b;
                default:
                    return b == 0 && length == 8;
            }
        }

        private boolean hasWayForth() {
            int entries = row[6];
            if (row[3] == 1) {
                return hasEntry(GRAY, entries);
            }
            return hasEntry(FORTH0, entries)
                    || row[4] == XYZ && hasEntry(RED, entries) && hasEntry(GREEN, entries)
                    && hasEntry(BLUE, entries) && hasEntry(MATRIX, entries);
        }

        /** The elements of a profile that keeps the rules: an element is known by its OFFSET. */
        int countElements() {
            int elements = 0;
            for (int k = 0; k < row[6]; k++) {
                boolean shared = false;
                for (int j = 0; j < k; j++) {
                    shared = shared || row[9 + 4 * j] == row[9 + 4 * k];
                }
                elements += shared ? 0 : 1;
            }
            return elements;
        }

        /**
         * The plain form of a profile that keeps the rules. It is never longer than the profile,
         * as data begin at multiples of 4 here and there.
         */
        int[] plainForm() {
            int[] entryOf = new int[SIGNATURES];
            for (int k = 0; k < row[6]; k++) {
                entryOf[row[8 + 4 * k]] = 8 + 4 * k;
            }
            int[] plain = new int[MOST_BYTES];
            System.arraycopy(row, 0, plain, 0, 8);
            int t = 8;
            int end = 8 + 4 * row[6];
            for (int s = GRAY; s <= WHITE; s++) {
                if (entryOf[s] != 0) {
                    int offset = row[entryOf[s] + 1];
                    int length = row[entryOf[s] + 2];
                    int place = findData(plain, t, offset, length);
                    if (place == 0) {
                        place = end;
                        System.arraycopy(row, offset, plain, place, length);
                        end = (place + length + 3) / 4 * 4;
                    }
                    plain[t] = s;
                    plain[t + 1] = place;
                    plain[t + 2] = length;
                    t += 4;
                }
            }
            plain[0] = end / 256;
            plain[1] = end % 256;
            return Arrays.copyOf(plain, end);
        }

        /** Where an entry of the plain form before place t has the same data already; 0 if none has. */
        private int findData(int[] plain, int t, int offset, int length) {
            for (int e = 8; e < t; e += 4) {
                boolean found = plain[e + 2] == length;
                for (int j = 0; found && j < length; j++) {
                    found = plain[plain[e + 1] + j] == row[offset + j];
                }
                if (found) {
                    return plain[e + 1];
                }
            }
            return 0;
        }
    }

    /** A profile, kept in its plain form, with the pieces of its ways. */
    private static final class Profile {
        private final int[] plain;
        private final int elementCount;
        /** The OFFSET in the plain form by signature, 0 where there is no entry. */
        private final int[] offsets = new int[SIGNATURES];
        private final Curve[] curves = new Curve[BLUE + 1];
        /** The grids by signature; none with one channel, where no way has them. */
        private final Grid[] grids = new Grid[SIGNATURES];
        /** The ways without a grid; null in a profile that has none. */
        private final Curves curvesForth;
        private final Piece endForth;
        private final Piece beginBack;
        private final Curves curvesBack;
        private final int[] white = new int[3];
        private final int[] blackLevels = new int[3];

        Profile(int[] plain, int elementCount) {
            this.plain = plain;
            this.elementCount = elementCount;
            for (int k = 0; k < plain[6]; k++) {
                offsets[plain[8 + 4 * k]] = plain[9 + 4 * k];
            }
            for (int s = GRAY; s <= BLUE; s++) {
                curves[s] = offsets[s] == 0 ? null : new Curve(plain, offsets[s]);
            }
            for (int i = 0; i < 3; i++) {
                white[i] = offsets[WHITE] == 0 ? D[i] : wordAt(plain, offsets[WHITE] + 2 + 2 * i);
            }
            boolean single = plain[3] == 1;
            for (int s = FORTH0; s <= BACK2; s++) {
                grids[s] = single || offsets[s] == 0 ? null : new Grid(plain, offsets[s]);
            }
            boolean shaped = plain[4] == XYZ && offsets[RED] != 0 && offsets[GREEN] != 0
                    && offsets[BLUE] != 0 && offsets[MATRIX] != 0;
            if (single || shaped) {
                Curve[] row = single ? new Curve[] {curves[GRAY]}
                        : new Curve[] {curves[RED], curves[GREEN], curves[BLUE]};
                curvesForth = new Curves(KIND_CURVES, row);
                curvesBack = new Curves(KIND_CURVES_BACK, row);
            } else {
                curvesForth = null;
                curvesBack = null;
            }
            if (single) {
                endForth = new Gray(KIND_SPREAD, plain[4]);
                beginBack = new Gray(KIND_GATHER, plain[4]);
            } else {
                endForth = shaped ? Matrix.forth(plain, offsets[MATRIX]) : null;
                beginBack = shaped ? Matrix.back(plain, offsets[MATRIX]) : null;
            }
        }

        int channels() {
            return plain[3];
        }

        int space() {
            return plain[4];
        }

        boolean isSourceAlone() {
            return plain[2] == 1;
        }

        /** The plain form tells all that counts, and nothing that does not. */
        boolean isLike(Profile other) {
            boolean like = plain.length == other.plain.length;
            for (int i = 0; like && i < plain.length; i++) {
                like = plain[i] == other.plain[i];
            }
            return like;
        }

        boolean hasWhiteOf(Profile other) {
            return white[0] == other.white[0] && white[1] == other.white[1] && white[2] == other.white[2];
        }

        boolean whiteHasZero() {
            return white[0] == 0 || white[1] == 0 || white[2] == 0;
        }

        /** Piece k, 0 or 1, of the way forth; null when the way has no such piece. */
        Piece forthPiece(int intent, int k) {
            Grid grid = gridFor(FORTH0, intent);
            if (grid != null) {
                return k == 0 ? grid : null;
            }
            return k == 0 ? curvesForth : endForth;
        }

        /** Piece k, 0 or 1, of the way back; null when the way has no such piece, or there is no way. */
        Piece backPiece(int intent, int k) {
            Grid grid = gridFor(BACK0, intent);
            if (grid != null) {
                return k == 0 ? grid : null;
            }
            return k == 0 ? beginBack : curvesBack;
        }

        private Grid gridFor(int signature, int intent) {
            int j = intent == ABSOLUTE ? 1 : intent;
            Grid own = j >= 0 && j < 3 ? grids[signature + j] : null;
            return own != null ? own : grids[signature];
        }

        /** Black point compensation is never asked for with another intent than 0, 1 and 2. */
        int blackLevel(int intent) {
            return intent >= 0 && intent < 3 ? blackLevels[intent] : 0;
        }

        /** Done once, as a profile never changes. */
        void measureBlack() {
            int[] v = new int[3];
            for (int intent = 0; intent < 3; intent++) {
                Arrays.fill(v, 0);
                for (int k = 0; k < 2; k++) {
                    Piece next = forthPiece(intent, k);
                    if (next != null) {
                        next.run(v);
                    }
                }
                if (space() == LAB) {
                    LabXyz.turnToXyz(v);
                }
                blackLevels[intent] = v[1];
            }
        }
    }

    /** SAMPLES or POWER. */
    private static final class Curve {
        /** g of a POWER, 0 for SAMPLES. */
        private final int power;
        /** e(0), e(1), .. of SAMPLES; c and d of a POWER. */
        private final int[] words;

        Curve(int[] plain, int offset) {
            power = plain[offset] == TYPE_POWER ? plain[offset + 1] : 0;
            words = new int[power > 0 ? 2 : plain[offset + 1]];
            for (int i = 0; i < words.length; i++) {
                words[i] = wordAt(plain, offset + 2 + 2 * i);
            }
        }

        boolean isStraight() {
            return power == 0 && words.length == 0;
        }

        int valueAt(int x) {
            if (power > 0) {
                return x < words[1] ? lineAt(x) : powerAt(x);
            }
            return words.length < 2 ? x : sampleAt(x);
        }

        private int lineAt(int x) {
            return clip(nearest((long) words[0] * x, 256));
        }

        private int powerAt(int x) {
            long value = x;
            for (int k = 1; k < power; k++) {
                value = nearest(value * x, TOP);
            }
            return (int) value;
        }

        private int sampleAt(int x) {
            int q = x * (words.length - 1);
            int i = Math.min(words.length - 2, q / TOP);
            long f = q - TOP * i;
            return words[i] + (int) nearest((words[i + 1] - words[i]) * f, TOP);
        }

        boolean isRising() {
            if (power > 0) {
                return words[1] == 0 || lineAt(words[1] - 1) <= powerAt(words[1]);
            }
            for (int i = 1; i < words.length; i++) {
                if (words[i] <= words[i - 1]) {
                    return false;
                }
            }
            return true;
        }

        /**
         * The number of levels below 65535 whose value is less than y. Values of a rising curve
         * never fall, so these levels are the lowest ones, and the next level is the inverse.
         */
        int inverseAt(int y) {
            int x = 0;
            for (int step = 32768; step > 0; step /= 2) {
                if (valueAt(x + step - 1) < y) {
                    x += step;
                }
            }
            return x;
        }
    }

    /** A step of a link. */
    private abstract static class Piece {
        final int kind;
        /** Whether it changes no colour by its form, and so stands in no link. */
        final boolean leftOut;

        Piece(int kind, boolean leftOut) {
            this.kind = kind;
            this.leftOut = leftOut;
        }

        /** Turns the colour v into the new one. */
        abstract void run(int[] v);
    }

    /** CURVES and CURVES BACK, with one curve or three. */
    private static final class Curves extends Piece {
        private final Curve[] row;

        Curves(int kind, Curve[] row) {
            super(kind, areStraight(row));
            this.row = row;
        }

        private static boolean areStraight(Curve[] row) {
            boolean straight = true;
            for (int i = 0; i < row.length; i++) {
                straight = straight && row[i].isStraight();
            }
            return straight;
        }

        boolean areRising() {
            boolean rising = true;
            for (int i = 0; i < row.length; i++) {
                rising = rising && row[i].isRising();
            }
            return rising;
        }

        void run(int[] v) {
            for (int i = 0; i < row.length; i++) {
                v[i] = kind == KIND_CURVES ? row[i].valueAt(v[i]) : row[i].inverseAt(v[i]);
            }
        }
    }

    /** MATRIX and MATRIX BACK: new levels are sums of factors times old ones, over one divisor. */
    private static final class Matrix extends Piece {
        private static final long LEAST_DETERMINANT = 16777216;
        private final long[] factors;
        private final long divisor;

        private Matrix(int kind, boolean leftOut, long[] factors, long divisor) {
            super(kind, leftOut);
            this.factors = factors;
            this.divisor = divisor;
        }

        static Matrix forth(int[] plain, int offset) {
            long[] m = readFactors(plain, offset);
            return new Matrix(KIND_MATRIX, isUnit(m), m, 4096);
        }

        /** By Cramer's rule: the cofactors, turned over the diagonal, over the determinant. */
        static Matrix back(int[] plain, int offset) {
            long[] m = readFactors(plain, offset);
            long[] turned = new long[9];
            for (int i = 0; i < 3; i++) {
                for (int j = 0; j < 3; j++) {
                    turned[3 * j + i] = 4096 * cofactor(m, i, j);
                }
            }
            long determinant = m[0] * cofactor(m, 0, 0) + m[1] * cofactor(m, 0, 1) + m[2] * cofactor(m, 0, 2);
            return new Matrix(KIND_MATRIX_BACK, isUnit(m), turned, determinant);
        }

        private static long[] readFactors(int[] plain, int offset) {
            long[] m = new long[9];
            for (int i = 0; i < 9; i++) {
                int w = wordAt(plain, offset + 2 + 2 * i);
                m[i] = w >= 32768 ? w - 65536 : w;
            }
            return m;
        }

        private static boolean isUnit(long[] m) {
            boolean unit = true;
            for (int i = 0; i < 9; i++) {
                unit = unit && m[i] == (i % 4 == 0 ? 4096 : 0);
            }
            return unit;
        }

        /** Taking rows and columns in a circle gives the sign with no more ado. */
        private static long cofactor(long[] m, int i, int j) {
            int i1 = 3 * ((i + 1) % 3);
            int i2 = 3 * ((i + 2) % 3);
            int j1 = (j + 1) % 3;
            int j2 = (j + 2) % 3;
            return m[i1 + j1] * m[i2 + j2] - m[i1 + j2] * m[i2 + j1];
        }

        boolean isSingular() {
            return divisor > -LEAST_DETERMINANT && divisor < LEAST_DETERMINANT;
        }

        void run(int[] v) {
            long v0 = v[0];
            long v1 = v[1];
            long v2 = v[2];
            for (int i = 0; i < 3; i++) {
                long sum = factors[3 * i] * v0 + factors[3 * i + 1] * v1 + factors[3 * i + 2] * v2;
                v[i] = clip(nearest(sum, divisor));
            }
        }
    }

    /** GRID. */
    private static final class Grid extends Piece {
        private final int[] plain;
        /** Where the bytes of the nodes begin. */
        private final int start;
        private final int g;
        private final int[] rest = new int[3];

        Grid(int[] plain, int offset) {
            super(KIND_GRID, false);
            this.plain = plain;
            this.start = offset + 2;
            this.g = plain[offset + 1];
        }

        void run(int[] v) {
            int node = 0;
            for (int axis = 0; axis < 3; axis++) {
                int q = v[axis] * (g - 1);
                int cell = Math.min(g - 2, q / TOP);
                rest[axis] = q - TOP * cell;
                node = node * g + cell;
            }
            int first = axisOfGreatest();
            int last = axisOfLeast();
            int middle = 3 - first - last;
            int node1 = node + stride(first);
            int node2 = node1 + stride(middle);
            int node3 = node2 + stride(last);
            for (int i = 0; i < 3; i++) {
                long level = levelAt(node, i);
                long level1 = levelAt(node1, i);
                long level2 = levelAt(node2, i);
                long level3 = levelAt(node3, i);
                long sum = rest[first] * (level1 - level) + rest[middle] * (level2 - level1)
                        + rest[last] * (level3 - level2);
                v[i] = (int) nearest(TOP * level + sum, TOP);
            }
        }

        /** The first such axis, where axisOfLeast takes the last, so that the two always differ. */
        private int axisOfGreatest() {
            int best = 0;
            for (int axis = 1; axis < 3; axis++) {
                best = rest[axis] > rest[best] ? axis : best;
            }
            return best;
        }

        private int axisOfLeast() {
            int best = 0;
            for (int axis = 1; axis < 3; axis++) {
                best = rest[axis] <= rest[best] ? axis : best;
            }
            return best;
        }

        private int stride(int axis) {
            return axis == 0 ? g * g : axis == 1 ? g : 1;
        }

        private long levelAt(int node, int i) {
            return 257L * plain[start + 3 * node + i];
        }
    }

    /** SPREAD and GATHER: between the one channel and the SPACE. */
    private static final class Gray extends Piece {
        private final int space;

        Gray(int kind, int space) {
            super(kind, false);
            this.space = space;
        }

        void run(int[] v) {
            if (kind == KIND_SPREAD) {
                spread(v);
            } else {
                gather(v);
            }
        }

        private void spread(int[] v) {
            long v0 = v[0];
            if (space == LAB) {
                v[1] = MIDDLE;
                v[2] = MIDDLE;
                return;
            }
            for (int i = 0; i < 3; i++) {
                v[i] = (int) nearest(D[i] * v0, TOP);
            }
        }

        private void gather(int[] v) {
            if (space == XYZ) {
                v[0] = clip(nearest((long) TOP * v[1], ONE));
            }
            v[1] = 0;
            v[2] = 0;
        }
    }

    /** TO LAB and TO XYZ. */
    private static final class LabXyz extends Piece {
        private static final long CUBE = 134217728;

        LabXyz(int kind) {
            super(kind, false);
        }

        void run(int[] v) {
            if (kind == KIND_TO_LAB) {
                turnToLab(v);
            } else {
                turnToXyz(v);
            }
        }

        private static void turnToLab(int[] v) {
            long x = rootOf(v[0], D[0]);
            long y = rootOf(v[1], D[1]);
            long z = rootOf(v[2], D[2]);
            v[0] = clip(nearest((116 * y - 262144) * TOP, 1638400));
            v[1] = clip(MIDDLE + nearest(128500 * (x - y), 16384));
            v[2] = clip(MIDDLE + nearest(51400 * (y - z), 16384));
        }

        /** F of the document. */
        private static long rootOf(long t, long w) {
            long u = nearest(32768 * t, w);
            return u > 290 ? cubeRoot(CUBE * u) : nearest(841 * u, 216) + 2260;
        }

        /** The greatest r with r * r * r not more than n; F needs none that is over 22010. */
        private static long cubeRoot(long n) {
            long root = 0;
            for (int bit = 16384; bit > 0; bit /= 2) {
                long next = root + bit;
                if (next * next * next <= n) {
                    root = next;
                }
            }
            return root;
        }

        static void turnToXyz(int[] v) {
            long y = nearest((100L * v[0] + 1048560) * 16384, 7602060);
            long x = y + nearest((v[1] - MIDDLE) * 16384L, 128500);
            long z = y - nearest((v[2] - MIDDLE) * 16384L, 51400);
            v[0] = clip(nearest(D[0] * cubeOf(x), ONE));
            v[1] = clip(cubeOf(y));
            v[2] = clip(nearest(D[2] * cubeOf(z), ONE));
        }

        /** G of the document. */
        private static long cubeOf(long f) {
            return f > 3389 ? nearest(f * f * f, CUBE) : nearest((f - 2260) * 216, 841);
        }
    }

    /** SCALE and BLACK, the piece S of a passage. */
    private static final class Adjust extends Piece {
        private final Profile from;
        private final Profile to;
        private final int intent;

        Adjust(int kind, Profile from, Profile to, int intent) {
            super(kind, false);
            this.from = from;
            this.to = to;
            this.intent = intent;
        }

        void run(int[] v) {
            for (int i = 0; i < 3; i++) {
                v[i] = clip(kind == KIND_SCALE ? scaled(v[i], i) : darkened(v[i], i));
            }
        }

        private long scaled(long level, int i) {
            return nearest(level * from.white[i], to.white[i]);
        }

        private long darkened(long level, int i) {
            return D[i] - nearest((D[i] - level) * (ONE - to.blackLevel(intent)), ONE - from.blackLevel(intent));
        }
    }

    /** The pieces that were joined, and what they were joined for. */
    private static final class Link {
        /** The link that was extended, null when there was none. */
        private final Link base;
        private final Profile from;
        private final Profile to;
        private final int intent;
        private final boolean asked;
        private final Profile first;
        private final Piece[] row;
        private long latestColour = MISSING;
        private long latestAnswer = MISSING;

        Link(Link base, Profile from, Profile to, int intent, boolean asked, Piece[] chain, int count) {
            this.base = base;
            this.from = from;
            this.to = to;
            this.intent = intent;
            this.asked = asked;
            first = base == null ? from : base.first;
            row = new Piece[count];
            for (int k = 0; k < count; k++) {
                row[k] = chain[k];
            }
        }

        boolean wasMadeFrom(Link other, Profile a, Profile b, int j, boolean compensated) {
            return base == other && from == a && to == b && intent == j && asked == compensated;
        }

        void runFirst(int k, int[] v) {
            for (int i = 0; i < k && i < row.length; i++) {
                row[i].run(v);
            }
        }
    }
}
