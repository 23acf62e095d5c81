/**
 * A block cipher of 16 octets and what is done with it: see the document's numbered promises.
 *
 * <p>The cipher runs as a circuit on bits side by side (class Slices), and nothing secret is ever
 * an index or a condition: only lengths, kinds and the verdict "right or not" decide a way.
 */
public final class SlicedModes {
    private static final int OUTSIDE = -2;
    private static final int WRONG_KEY = -3;
    private static final int NO_ROOM = -4;
    private static final int NOT_RIGHT = -6;

    private static final int BOOK = 1;
    private static final int CHAIN = 2;
    private static final int PADDED = 3;
    private static final int STOLEN = 4;
    private static final int FEED = 5;
    private static final int FEED_OF_ONE = 6;
    private static final int OUT = 7;
    private static final int COUNT = 8;
    private static final int SECTOR = 9;
    private static final int WRAP = 10;
    private static final int PADDED_WRAP = 11;
    private static final int GALOIS = 12;
    private static final int COUNTED = 13;
    private static final int TWICE = 14;
    private static final int MADE = 15;
    private static final int OFFSETS = 16;

    private static final int MAC_SUM = 1;
    private static final int CHAIN_SUM = 2;
    private static final int GALOIS_SUM = 3;

    private static final int DATA_ROOM = 512;
    // DATA with a TAG, a V or a whole block of padding behind it is the most that can come.
    private static final int OUT_ROOM = DATA_ROOM + 16;
    // COUNTED sums the longest row: its first block, ASIDE with its length, and DATA.
    private static final int WORK_ROOM = 16 + 272 + DATA_ROOM;

    private final Row key;
    private final Row data;
    private final Row start;
    private final Row aside;
    private final Row body;
    // OUT is made in the spare row and changes places with it only when it is right.
    private Row result;
    private Row spare;
    private int tagSize;
    private final Cipher first;
    private final Cipher second;
    private final Chains chains;
    private final Streams streams;
    private final Sectors sectors;
    private final Wraps wraps;
    private final Galois galois;
    private final Maced maced;
    private final Offsets offsets;
    private final Block mark;
    private final Block told;

    public SlicedModes() {
        key = new Row(64);
        data = new Row(DATA_ROOM);
        start = new Row(64);
        aside = new Row(256);
        body = new Row(DATA_ROOM);
        result = new Row(OUT_ROOM);
        spare = new Row(OUT_ROOM);
        tagSize = 16;
        first = new Cipher();
        second = new Cipher();
        Row work = new Row(WORK_ROOM);
        chains = new Chains(first, start, work);
        streams = new Streams(first, start);
        sectors = new Sectors(first, second, start);
        wraps = new Wraps(first);
        galois = new Galois(first, start, aside);
        maced = new Maced(first, second, streams, start, aside, work);
        offsets = new Offsets(first, start, aside);
        mark = new Block();
        told = new Block();
    }

    public int feed(int row, long v, int n) {
        Row fed = rowOf(row);
        if (fed == null || n < 0 || n > 8) {
            return OUTSIDE;
        }
        if (n == 0) {
            fed.keep(0);
            return 0;
        }
        if (!fed.hasRoomFor(n)) {
            return NO_ROOM;
        }
        for (int i = n - 1; i >= 0; i--) {
            fed.append((int) (v >>> (8 * i)));
        }
        return fed.size;
    }

    public int fill(int row, int n, int seed) {
        Row filled = rowOf(row);
        if (filled == null || n < 0) {
            return OUTSIDE;
        }
        if (!filled.hasRoomFor(n)) {
            return NO_ROOM;
        }
        int z = seed;
        for (int i = 0; i < n; i++) {
            z = z * 1664525 + 1013904223;
            filled.append(z >>> 24);
        }
        return filled.size;
    }

    public int alter(int row, int i, int v) {
        Row altered = rowOf(row);
        if (altered == null || !altered.has(i) || v < 0 || v > 255) {
            return OUTSIDE;
        }
        int was = altered.at(i);
        altered.put(i, v);
        return was;
    }

    public int octet(int row, int i) {
        Row read = rowOf(row);
        return read == null || !read.has(i) ? OUTSIDE : read.at(i);
    }

    public int cut(int row, int n) {
        Row shortened = rowOf(row);
        if (shortened == null || n < 0 || n > shortened.size) {
            return OUTSIDE;
        }
        int had = shortened.size;
        shortened.keep(n);
        return had;
    }

    public int tag(int m) {
        if (m < 4 || m > 16) {
            return OUTSIDE;
        }
        int had = tagSize;
        tagSize = m;
        return had;
    }

    public int seal(int kind) {
        int refusal = refusalOf(kind, false);
        if (refusal < 0) {
            return refusal;
        }
        expandKeys(kind);
        spare.keep(0);
        if (isTagged(kind)) {
            runTagged(kind, data, false);
            spare.appendBlock(mark, tagSize);
        } else if (kind == MADE) {
            maced.lockMade(data, spare);
        } else {
            lockBare(kind);
        }
        return publish();
    }

    public int open(int kind) {
        int refusal = refusalOf(kind, true);
        if (refusal < 0) {
            return refusal;
        }
        expandKeys(kind);
        spare.keep(0);
        boolean right;
        if (isTagged(kind)) {
            int size = data.size - tagSize;
            body.copyPart(data, 0, size);
            told.read(data, size);
            runTagged(kind, body, true);
            mark.keepFirst(tagSize);
            right = mark.same(told);
        } else if (kind == MADE) {
            told.read(data, 0);
            body.copyPart(data, 16, data.size);
            right = maced.unlockMade(told, body, spare);
        } else {
            right = unlockBare(kind);
        }
        return right ? publish() : NOT_RIGHT;
    }

    public int sum(int kind) {
        if (kind < MAC_SUM || kind > GALOIS_SUM) {
            return OUTSIDE;
        }
        if (!isKeySize(key.size)) {
            return WRONG_KEY;
        }
        if (kind != MAC_SUM && (data.size == 0 || (data.size & 15) != 0)) {
            return OUTSIDE;
        }
        first.expand(key, 0, key.size);
        if (kind == MAC_SUM) {
            maced.mac(data, mark);
        } else if (kind == CHAIN_SUM) {
            maced.chainSum(data, mark);
        } else {
            galois.sumAlone(data, mark);
        }
        spare.keep(0);
        spare.appendBlock(mark, 16);
        return publish();
    }

    public int out(int i) {
        return result.has(i) ? result.at(i) : OUTSIDE;
    }

    public int take(int row) {
        Row taker = rowOf(row);
        if (taker == null) {
            return OUTSIDE;
        }
        if (result.size > taker.room()) {
            return NO_ROOM;
        }
        taker.copyPart(result, 0, result.size);
        return taker.size;
    }

    public int roundKey(int i) {
        if (!isKeySize(key.size)) {
            return WRONG_KEY;
        }
        first.expand(key, 0, key.size);
        return i < 0 || i >= first.keyOctets() ? OUTSIDE : first.keyOctet(i);
    }

    private Row rowOf(int row) {
        switch (row) {
            case 0:
                return key;
            case 1:
                return data;
            case 2:
                return start;
            case 3:
                return aside;
            default:
                return null;
        }
    }

    private static boolean isTagged(int kind) {
        return kind == GALOIS || kind == COUNTED || kind == TWICE || kind == OFFSETS;
    }

    private static boolean wantsTwoKeys(int kind) {
        return kind == SECTOR || kind == MADE;
    }

    private static boolean isKeySize(int octets) {
        return octets == 16 || octets == 24 || octets == 32;
    }

    private int refusalOf(int kind, boolean opening) {
        if (kind < BOOK || kind > OFFSETS) {
            return OUTSIDE;
        }
        boolean keyFits = wantsTwoKeys(kind)
                ? (key.size & 1) == 0 && isKeySize(key.size >> 1)
                : isKeySize(key.size);
        if (!keyFits) {
            return WRONG_KEY;
        }
        if (!startFits(kind) || !dataFits(kind, opening)) {
            return OUTSIDE;
        }
        return kind == COUNTED && (tagSize & 1) != 0 ? OUTSIDE : 0;
    }

    private boolean startFits(int kind) {
        int size = start.size;
        switch (kind) {
            case CHAIN:
            case PADDED:
            case STOLEN:
            case FEED:
            case FEED_OF_ONE:
            case OUT:
            case COUNT:
            case SECTOR:
                return size == 16;
            case GALOIS:
                return size >= 1;
            case COUNTED:
                return size >= 7 && size <= 13;
            case OFFSETS:
                return size >= 1 && size <= 15;
            default:
                return true;
        }
    }

    private boolean dataFits(int kind, boolean opening) {
        int size = data.size;
        if (isTagged(kind)) {
            // COUNTED's bound of 2^(8 q) lies above all that DATA can hold, as q is 2 at least.
            return !opening || size >= tagSize;
        }
        switch (kind) {
            case BOOK:
            case CHAIN:
                return (size & 15) == 0;
            case PADDED:
                return !opening || (size >= 16 && (size & 15) == 0);
            case STOLEN:
                return size >= 17;
            case SECTOR:
                return size >= 16;
            case WRAP:
                return (size & 7) == 0 && size >= (opening ? 24 : 16);
            case PADDED_WRAP:
                return opening ? (size & 7) == 0 && size >= 16 : size >= 1;
            case MADE:
                return !opening || size >= 16;
            default:
                return true;
        }
    }

    private void expandKeys(int kind) {
        if (wantsTwoKeys(kind)) {
            int half = key.size >> 1;
            first.expand(key, 0, half);
            second.expand(key, half, half);
        } else {
            first.expand(key, 0, key.size);
        }
    }

    private int publish() {
        Row older = result;
        result = spare;
        spare = older;
        return result.size;
    }

    private void lockBare(int kind) {
        switch (kind) {
            case BOOK:
                chains.lockBook(data, spare);
                break;
            case CHAIN:
                chains.lockChain(data, spare);
                break;
            case PADDED:
                chains.lockPadded(data, spare);
                break;
            case STOLEN:
                chains.lockStolen(data, spare);
                break;
            case SECTOR:
                sectors.lock(data, spare);
                break;
            case WRAP:
                wraps.lockWrap(data, spare);
                break;
            case PADDED_WRAP:
                wraps.lockPaddedWrap(data, spare);
                break;
            default:
                runStream(kind, false);
                break;
        }
    }

    private boolean unlockBare(int kind) {
        switch (kind) {
            case BOOK:
                chains.unlockBook(data, spare);
                return true;
            case CHAIN:
                chains.unlockChain(data, spare);
                return true;
            case PADDED:
                return chains.unlockPadded(data, spare);
            case STOLEN:
                chains.unlockStolen(data, spare);
                return true;
            case SECTOR:
                sectors.unlock(data, spare);
                return true;
            case WRAP:
                return wraps.unlockWrap(data, spare);
            case PADDED_WRAP:
                return wraps.unlockPaddedWrap(data, spare);
            default:
                runStream(kind, true);
                return true;
        }
    }

    private void runStream(int kind, boolean opening) {
        if (kind == FEED) {
            streams.feedBack(data, opening, spare);
        } else if (kind == FEED_OF_ONE) {
            streams.feedBackOne(data, opening, spare);
        } else if (kind == OUT) {
            streams.turnOver(data, spare);
        } else {
            told.read(start, 0);
            streams.count(first, told, data, spare);
        }
    }

    private void runTagged(int kind, Row text, boolean opening) {
        if (kind == GALOIS) {
            galois.run(text, opening, spare, mark);
        } else if (kind == COUNTED) {
            maced.runCounted(text, opening, tagSize, spare, mark);
        } else if (kind == TWICE) {
            maced.runTwice(text, opening, spare, mark);
        } else {
            offsets.run(text, opening, tagSize, spare, mark);
        }
    }

    /** Octets in a row that never grows beyond its room; what it has not reads as 0. */
    private static final class Row {
        private final int[] octets;
        private int size;

        Row(int room) {
            octets = new int[Math.max(room, 0)];
            size = 0;
        }

        int room() {
            return octets.length;
        }

        boolean has(int i) {
            return i >= 0 && i < size;
        }

        boolean hasRoomFor(int n) {
            return n <= octets.length - size;
        }

        int at(int i) {
            return i >= 0 && i < size && i < octets.length ? octets[i] : 0;
        }

        void put(int i, int v) {
            if (i >= 0 && i < size && i < octets.length) {
                octets[i] = v & 255;
            }
        }

        void append(int v) {
            if (size >= 0 && size < octets.length) {
                octets[size] = v & 255;
                size++;
            }
        }

        void keep(int n) {
            if (n >= 0 && n < size) {
                size = n;
            }
        }

        void appendRow(Row from) {
            for (int i = 0; i < from.size; i++) {
                append(from.at(i));
            }
        }

        void appendBlock(Block block, int n) {
            for (int i = 0; i < n; i++) {
                append(block.octetAt(i));
            }
        }

        void copyPart(Row from, int begin, int end) {
            size = 0;
            for (int i = begin; i < end; i++) {
                append(from.at(i));
            }
        }

        /** 0s behind, to a multiple of a power of 2. */
        void padTo(int multiple) {
            int missing = -size & (multiple - 1);
            for (int i = 0; i < missing; i++) {
                append(0);
            }
        }

        long eightAt(int from) {
            long v = 0;
            for (int i = from; i < from + 8; i++) {
                v = v << 8 | (i >= 0 && i < size && i < octets.length ? octets[i] : 0);
            }
            return v;
        }

        void putEight(int from, long v) {
            for (int i = 0; i < 8; i++) {
                put(from + i, (int) (v >>> (56 - 8 * i)));
            }
        }
    }

    /** 16 octets as two numbers, the first octet being the highest of the first number. */
    private static final class Block {
        private long high;
        private long low;

        void become(long newHigh, long newLow) {
            high = newHigh;
            low = newLow;
        }

        void copy(Block from) {
            high = from.high;
            low = from.low;
        }

        void read(Row row, int from) {
            high = row.eightAt(from);
            low = row.eightAt(from + 8);
        }

        void addPart(Row row, int from) {
            high ^= row.eightAt(from);
            low ^= row.eightAt(from + 8);
        }

        void add(Block other) {
            high ^= other.high;
            low ^= other.low;
        }

        int octetAt(int i) {
            return (int) ((i < 8 ? high : low) >>> (56 - 8 * (i & 7))) & 255;
        }

        void addOctet(int i, int v) {
            long moved = (v & 255L) << (56 - 8 * (i & 7));
            if (i < 8) {
                high ^= moved;
            } else {
                low ^= moved;
            }
        }

        void comeIn(int v) {
            high = high << 8 | low >>> 56;
            low = low << 8 | (v & 255);
        }

        void keepFirst(int n) {
            high &= firstOctets(n);
            low &= firstOctets(n - 8);
        }

        void dropFirst(int n) {
            high &= ~firstOctets(n);
            low &= ~firstOctets(n - 8);
        }

        private static long firstOctets(int n) {
            if (n <= 0) {
                return 0;
            }
            return n >= 8 ? -1L : -1L << (64 - 8 * n);
        }

        boolean same(Block other) {
            return ((high ^ other.high) | (low ^ other.low)) == 0;
        }

        void makeDouble() {
            long over = high >>> 63;
            high = high << 1 | low >>> 63;
            low = low << 1 ^ over * 135;
        }

        /** Doubled with the lowest octet first: an octet's highest bit goes to the next octet. */
        void makeDoubleLowFirst() {
            long over = (low >>> 7 & 1) * 135;
            long between = high >>> 7 & 1;
            high = (high & 0x7f7f7f7f7f7f7f7fL) << 1 | (high & 0x8080808080808080L) >>> 15;
            low = (low & 0x7f7f7f7f7f7f7f7fL) << 1 | (low & 0x8080808080808080L) >>> 15;
            high ^= over << 56;
            low ^= between << 56;
        }

        void addOne() {
            low++;
            // 1 if the lower number is 0 now, told without a condition on a block that may be secret.
            high += (low | -low) >>> 63 ^ 1;
        }

        void addOneToLastFour() {
            low = (low & 0xffffffff00000000L) | (low + 1 & 0xffffffffL);
        }

        /** The product of GALOIS, where the highest bit stands at x^0. */
        void multiply(Block factor) {
            long yHigh = high;
            long yLow = low;
            long vHigh = factor.high;
            long vLow = factor.low;
            high = 0;
            low = 0;
            for (int i = 0; i < 128; i++) {
                long taken = yHigh >> 63;
                high ^= vHigh & taken;
                low ^= vLow & taken;
                yHigh = yHigh << 1 | yLow >>> 63;
                yLow <<= 1;
                long over = -(vLow & 1);
                vLow = vLow >>> 1 | vHigh << 63;
                vHigh = vHigh >>> 1 ^ (over & 0xe100000000000000L);
            }
        }
    }

    /**
     * A block as eight planes of 16 bits: plane b has bit b of each octet, octet k at its bit
     * 15 - k. The planes 0 .. 3 stand in one number, 4 .. 7 in the other, the lowest ones lowest.
     */
    private static final class Slices {
        private long low;
        private long high;

        void split(long firstHalf, long secondHalf) {
            long a = turned(firstHalf);
            long b = turned(secondHalf);
            low = spread(a) << 8 | spread(b);
            high = spread(a >>> 32) << 8 | spread(b >>> 32);
        }

        long joinFirst() {
            return turned(gathered(low >>> 8) | gathered(high >>> 8) << 32);
        }

        long joinSecond() {
            return turned(gathered(low) | gathered(high) << 32);
        }

        /** Bit i of octet j becomes bit j of octet i, by swaps of ever larger squares. */
        private static long turned(long x) {
            long t = (x ^ x >>> 7) & 0x00aa00aa00aa00aaL;
            long y = x ^ t ^ t << 7;
            t = (y ^ y >>> 14) & 0x0000cccc0000ccccL;
            y = y ^ t ^ t << 14;
            t = (y ^ y >>> 28) & 0x00000000f0f0f0f0L;
            return y ^ t ^ t << 28;
        }

        private static long spread(long x) {
            long y = (x & 0xffff0000L) << 16 | (x & 0xffffL);
            return (y & 0x0000ff000000ff00L) << 8 | (y & 0x000000ff000000ffL);
        }

        private static long gathered(long x) {
            long y = x & 0x00ff00ff00ff00ffL;
            y = (y | y >>> 8) & 0x0000ffff0000ffffL;
            return (y | y >>> 16) & 0x00000000ffffffffL;
        }

        void addKey(long[] keys, int round) {
            int at = 2 * round;
            if (at >= 0 && at + 1 < keys.length) {
                low ^= keys[at];
                high ^= keys[at + 1];
            }
        }

        void shiftRows() {
            low = shifted(low);
            high = shifted(high);
        }

        void shiftRowsBack() {
            low = shiftedBack(low);
            high = shiftedBack(high);
        }

        private static long shifted(long x) {
            return x & 0x8888888888888888L
                    | x << 4 & 0x4440444044404440L | x >>> 12 & 0x0004000400040004L
                    | x << 8 & 0x2200220022002200L | x >>> 8 & 0x0022002200220022L
                    | x << 12 & 0x1000100010001000L | x >>> 4 & 0x0111011101110111L;
        }

        private static long shiftedBack(long x) {
            return x & 0x8888888888888888L
                    | x >>> 4 & 0x0444044404440444L | x << 12 & 0x4000400040004000L
                    | x >>> 8 & 0x0022002200220022L | x << 8 & 0x2200220022002200L
                    | x >>> 12 & 0x0001000100010001L | x << 4 & 0x1110111011101110L;
        }

        /** a' = 2 (a + b) + b + (c + d), for all four octets of all words at once. */
        void mixWords() {
            long nextLow = nextOctets(low);
            long nextHigh = nextOctets(high);
            long pairLow = low ^ nextLow;
            long pairHigh = high ^ nextHigh;
            long over = pairHigh >>> 48;
            low = pairLow << 16 ^ over * 0x0001000000010001L ^ nextLow ^ acrossOctets(pairLow);
            high = (pairHigh << 16 | pairLow >>> 48) ^ over ^ nextHigh ^ acrossOctets(pairHigh);
        }

        private static long nextOctets(long x) {
            return x << 1 & 0xeeeeeeeeeeeeeeeeL | x >>> 3 & 0x1111111111111111L;
        }

        private static long acrossOctets(long x) {
            return x << 2 & 0xccccccccccccccccL | x >>> 2 & 0x3333333333333333L;
        }

        /** The box is its own undoing but for its linear end, which stands on both sides here. */
        void boxBack() {
            undoLinearEnd();
            box();
            undoLinearEnd();
        }

        /** Bit i becomes bits i + 2, i + 5, i + 7 (modulo 8) added, 99 being taken off before. */
        private void undoLinearEnd() {
            long a = low ^ 0x00000000ffffffffL;
            long b = high ^ 0x0000ffffffff0000L;
            low = (a >>> 32 | b << 32) ^ (b >>> 16 | a << 48) ^ (b >>> 48 | a << 16);
            high = (b >>> 32 | a << 32) ^ (a >>> 16 | b << 48) ^ (a >>> 48 | b << 16);
        }

        /**
         * The circuit of Boyar and Peralta: "A new combinational logic minimization technique with
         * applications to cryptology". Their x0 and s0 are the highest bits, x7 and s7 the lowest.
         */
        void box() {
            int x7 = (int) low & 0xffff, x6 = (int) (low >>> 16) & 0xffff;
            int x5 = (int) (low >>> 32) & 0xffff, x4 = (int) (low >>> 48);
            int x3 = (int) high & 0xffff, x2 = (int) (high >>> 16) & 0xffff;
            int x1 = (int) (high >>> 32) & 0xffff, x0 = (int) (high >>> 48);

            int y14 = x3 ^ x5, y13 = x0 ^ x6, y9 = x0 ^ x3, y8 = x0 ^ x5, t0 = x1 ^ x2;
            int y1 = t0 ^ x7, y4 = y1 ^ x3, y12 = y13 ^ y14, y2 = y1 ^ x0, y5 = y1 ^ x6;
            int y3 = y5 ^ y8, t1 = x4 ^ y12, y15 = t1 ^ x5, y20 = t1 ^ x1, y6 = y15 ^ x7;
            int y10 = y15 ^ t0, y11 = y20 ^ y9, y7 = x7 ^ y11, y17 = y10 ^ y11;
            int y19 = y10 ^ y8, y16 = t0 ^ y11, y21 = y13 ^ y16, y18 = x0 ^ y16;

            int t2 = y12 & y15, t4 = y3 & y6 ^ t2, t6 = y4 & x7 ^ t2;
            int t7 = y13 & y16, t9 = y5 & y1 ^ t7, t11 = y2 & y7 ^ t7;
            int t12 = y9 & y11, t14 = y14 & y17 ^ t12, t16 = y8 & y10 ^ t12;
            int t21 = t4 ^ t14 ^ y20, t22 = t6 ^ t16 ^ y19;
            int t23 = t9 ^ t14 ^ y21, t24 = t11 ^ t16 ^ y18;

            int t25 = t21 ^ t22, t26 = t21 & t23, t27 = t24 ^ t26, t29 = t25 & t27 ^ t22;
            int t30 = t23 ^ t24, t31 = t22 ^ t26, t33 = t31 & t30 ^ t24, t34 = t23 ^ t33;
            int t35 = t27 ^ t33, t36 = t24 & t35, t37 = t36 ^ t34, t38 = t27 ^ t36;
            int t40 = t25 ^ t29 & t38, t41 = t40 ^ t37, t42 = t29 ^ t33;
            int t43 = t29 ^ t40, t44 = t33 ^ t37, t45 = t42 ^ t41;

            int z0 = t44 & y15, z1 = t37 & y6, z2 = t33 & x7, z3 = t43 & y16, z4 = t40 & y1;
            int z5 = t29 & y7, z6 = t42 & y11, z7 = t45 & y17, z8 = t41 & y10, z9 = t44 & y12;
            int z10 = t37 & y3, z11 = t33 & y4, z12 = t43 & y13, z13 = t40 & y5;
            int z14 = t29 & y2, z15 = t42 & y9, z16 = t45 & y14, z17 = t41 & y8;

            int t46 = z15 ^ z16, t47 = z10 ^ z11, t48 = z5 ^ z13, t49 = z9 ^ z10;
            int t50 = z2 ^ z12, t51 = z2 ^ z5, t52 = z7 ^ z8, t53 = z0 ^ z3, t54 = z6 ^ z7;
            int t55 = z16 ^ z17, t56 = z12 ^ t48, t57 = t50 ^ t53, t58 = z4 ^ t46;
            int t59 = z3 ^ t54, t60 = t46 ^ t57, t61 = z14 ^ t57, t62 = t52 ^ t58;
            int t63 = t49 ^ t58, t64 = z4 ^ t59, t65 = t61 ^ t62, t66 = z1 ^ t63;
            int t67 = t64 ^ t65, s3 = t53 ^ t66;
            int s0 = t59 ^ t63, s1 = t64 ^ s3 ^ 0xffff, s2 = t55 ^ t67 ^ 0xffff, s4 = t51 ^ t66;
            int s5 = t47 ^ t65, s6 = t56 ^ t62 ^ 0xffff, s7 = t48 ^ t60 ^ 0xffff;

            low = s7 | (long) s6 << 16 | (long) s5 << 32 | (long) s4 << 48;
            high = s3 | (long) s2 << 16 | (long) s1 << 32 | (long) s0 << 48;
        }
    }

    /** E and D by one key. */
    private static final class Cipher {
        private final int[] words;
        private final long[] keys;
        private final Slices slices;
        private int rounds;

        Cipher() {
            words = new int[60];
            keys = new long[30];
            slices = new Slices();
            rounds = 10;
        }

        /** The key is 16, 24 or 32 octets of a row. */
        void expand(Row key, int from, int octets) {
            int n = octets == 32 ? 8 : octets == 24 ? 6 : 4;
            rounds = n + 6;
            int end = Math.min(4 * rounds + 4, words.length);
            for (int i = 0; i < n && i < end; i++) {
                words[i] = (int) (key.eightAt(from + 4 * i) >>> 32);
            }
            int power = 1;
            int step = 0;
            for (int i = n; i < end; i++) {
                int t = words[i - 1];
                if (step == 0) {
                    t = boxed(t << 8 | t >>> 24) ^ power << 24;
                    power = power << 1 ^ (power >> 7) * 0x11b;
                } else if (n == 8 && step == 4) {
                    t = boxed(t);
                }
                words[i] = words[i - n] ^ t;
                step = step + 1 == n ? 0 : step + 1;
            }
            sliceKeys();
        }

        private int boxed(int word) {
            slices.split(word & 0xffffffffL, 0);
            slices.box();
            return (int) slices.joinFirst();
        }

        private void sliceKeys() {
            for (int r = 0; 2 * r + 1 < keys.length; r++) {
                slices.split(pair(4 * r), pair(4 * r + 2));
                keys[2 * r] = slices.low;
                keys[2 * r + 1] = slices.high;
            }
        }

        private long pair(int i) {
            return i >= 0 && i + 1 < words.length
                    ? (long) words[i] << 32 | (words[i + 1] & 0xffffffffL) : 0;
        }

        int keyOctets() {
            return 16 * (rounds + 1);
        }

        int keyOctet(int i) {
            int word = i >> 2;
            return word >= 0 && word < words.length
                    ? words[word] >>> (24 - 8 * (i & 3)) & 255 : 0;
        }

        void encrypt(Block block) {
            slices.split(block.high, block.low);
            slices.addKey(keys, 0);
            for (int r = 1; r < rounds; r++) {
                slices.box();
                slices.shiftRows();
                slices.mixWords();
                slices.addKey(keys, r);
            }
            slices.box();
            slices.shiftRows();
            slices.addKey(keys, rounds);
            block.become(slices.joinFirst(), slices.joinSecond());
        }

        void decrypt(Block block) {
            slices.split(block.high, block.low);
            slices.addKey(keys, rounds);
            for (int r = rounds - 1; r > 0; r--) {
                slices.shiftRowsBack();
                slices.boxBack();
                slices.addKey(keys, r);
                // Four mixings give the words back, so three of them undo one.
                slices.mixWords();
                slices.mixWords();
                slices.mixWords();
            }
            slices.shiftRowsBack();
            slices.boxBack();
            slices.addKey(keys, 0);
            block.become(slices.joinFirst(), slices.joinSecond());
        }
    }

    /** BOOK, CHAIN, PADDED, STOLEN. */
    private static final class Chains {
        private final Cipher cipher;
        private final Row start;
        private final Row work;
        private final Block block;
        private final Block before;
        private final Block kept;

        Chains(Cipher cipher, Row start, Row work) {
            this.cipher = cipher;
            this.start = start;
            this.work = work;
            block = new Block();
            before = new Block();
            kept = new Block();
        }

        void lockBook(Row text, Row made) {
            for (int at = 0; at < text.size; at += 16) {
                block.read(text, at);
                cipher.encrypt(block);
                made.appendBlock(block, 16);
            }
        }

        void unlockBook(Row text, Row made) {
            for (int at = 0; at < text.size; at += 16) {
                block.read(text, at);
                cipher.decrypt(block);
                made.appendBlock(block, 16);
            }
        }

        /** A last part is chained with 0s behind it, as STOLEN wants it. */
        void lockChain(Row text, Row made) {
            before.read(start, 0);
            for (int at = 0; at < text.size; at += 16) {
                block.read(text, at);
                block.add(before);
                cipher.encrypt(block);
                made.appendBlock(block, 16);
                before.copy(block);
            }
        }

        void unlockChain(Row text, Row made) {
            before.read(start, 0);
            for (int at = 0; at < text.size; at += 16) {
                kept.read(text, at);
                block.copy(kept);
                cipher.decrypt(block);
                block.add(before);
                made.appendBlock(block, 16);
                before.copy(kept);
            }
        }

        void lockPadded(Row text, Row made) {
            int missing = 16 - (text.size & 15);
            work.copyPart(text, 0, text.size);
            for (int i = 0; i < missing; i++) {
                work.append(missing);
            }
            lockChain(work, made);
        }

        boolean unlockPadded(Row text, Row made) {
            unlockChain(text, made);
            int told = made.at(made.size - 1);
            // Below 0 outside 1 .. 16; the padding's size is secret until all of it is looked at.
            int wrong = (told - 1 | 16 - told) >> 31;
            for (int i = 1; i <= 16; i++) {
                int counts = i - 1 - told >> 31;
                wrong |= counts & (made.at(made.size - i) ^ told);
            }
            if (wrong != 0) {
                return false;
            }
            made.keep(made.size - told);
            return true;
        }

        void lockStolen(Row text, Row made) {
            lockChain(text, made);
            int last = made.size - 16;
            block.read(made, last);
            kept.read(made, last - 16);
            made.keep(last - 16);
            made.appendBlock(block, 16);
            made.appendBlock(kept, 16);
            made.keep(text.size);
        }

        /** The octets that were not kept were chained with 0s, so D of the last block shows them. */
        void unlockStolen(Row text, Row made) {
            int last = text.size - 1 & ~15;
            block.read(text, last - 16);
            cipher.decrypt(block);
            block.dropFirst(text.size - last);
            kept.read(text, last);
            kept.add(block);
            block.read(text, last - 16);
            work.copyPart(text, 0, last - 16);
            work.appendBlock(kept, 16);
            work.appendBlock(block, 16);
            unlockChain(work, made);
            made.keep(text.size);
        }
    }

    /** FEED, FEED OF ONE, OUT, COUNT: DATA is only added to, so opening is nearly sealing. */
    private static final class Streams {
        private final Cipher cipher;
        private final Row start;
        private final Block register;
        private final Block block;
        private final Block pad;

        Streams(Cipher cipher, Row start) {
            this.cipher = cipher;
            this.start = start;
            register = new Block();
            block = new Block();
            pad = new Block();
        }

        void feedBack(Row text, boolean opening, Row made) {
            register.read(start, 0);
            for (int at = 0; at < text.size; at += 16) {
                pad.copy(register);
                cipher.encrypt(pad);
                block.read(text, at);
                register.copy(block);
                block.add(pad);
                if (!opening) {
                    register.copy(block);
                }
                made.appendBlock(block, Math.min(16, text.size - at));
            }
        }

        void feedBackOne(Row text, boolean opening, Row made) {
            register.read(start, 0);
            for (int i = 0; i < text.size; i++) {
                pad.copy(register);
                cipher.encrypt(pad);
                int given = text.at(i);
                int added = given ^ pad.octetAt(0);
                made.append(added);
                register.comeIn(opening ? given : added);
            }
        }

        void turnOver(Row text, Row made) {
            register.read(start, 0);
            for (int at = 0; at < text.size; at += 16) {
                cipher.encrypt(register);
                block.read(text, at);
                block.add(register);
                made.appendBlock(block, Math.min(16, text.size - at));
            }
        }

        void count(Cipher by, Block from, Row text, Row made) {
            register.copy(from);
            for (int at = 0; at < text.size; at += 16) {
                pad.copy(register);
                by.encrypt(pad);
                block.read(text, at);
                block.add(pad);
                made.appendBlock(block, Math.min(16, text.size - at));
                register.addOne();
            }
        }
    }

    /** SECTOR. */
    private static final class Sectors {
        private final Cipher first;
        private final Cipher second;
        private final Row start;
        private final Block tweak;
        private final Block block;
        private final Block part;
        private final Block kept;

        Sectors(Cipher first, Cipher second, Row start) {
            this.first = first;
            this.second = second;
            this.start = start;
            tweak = new Block();
            block = new Block();
            part = new Block();
            kept = new Block();
        }

        private void begin() {
            tweak.read(start, 0);
            second.encrypt(tweak);
        }

        private void lockBlock(Block b) {
            b.add(tweak);
            first.encrypt(b);
            b.add(tweak);
        }

        private void unlockBlock(Block b) {
            b.add(tweak);
            first.decrypt(b);
            b.add(tweak);
        }

        void lock(Row text, Row made) {
            int over = text.size & 15;
            int whole = text.size - over;
            begin();
            for (int at = 0; at < whole; at += 16) {
                block.read(text, at);
                lockBlock(block);
                made.appendBlock(block, 16);
                tweak.makeDoubleLowFirst();
            }
            if (over != 0) {
                made.keep(whole - 16);
                borrowEnd(text, whole, over);
                lockBlock(part);
                made.appendBlock(part, 16);
                made.appendBlock(block, over);
            }
        }

        void unlock(Row text, Row made) {
            int over = text.size & 15;
            int whole = over == 0 ? text.size : text.size - over - 16;
            begin();
            for (int at = 0; at < whole; at += 16) {
                block.read(text, at);
                unlockBlock(block);
                made.appendBlock(block, 16);
                tweak.makeDoubleLowFirst();
            }
            if (over != 0) {
                // The last whole block was sealed with the tweak behind the one of the part.
                kept.copy(tweak);
                tweak.makeDoubleLowFirst();
                block.read(text, whole);
                unlockBlock(block);
                borrowEnd(text, whole + 16, over);
                tweak.copy(kept);
                unlockBlock(part);
                made.appendBlock(part, 16);
                made.appendBlock(block, over);
            }
        }

        /** A part of the text and behind it the octets that the block has beyond it. */
        private void borrowEnd(Row text, int from, int over) {
            part.copy(block);
            part.dropFirst(over);
            part.addPart(text, from);
        }
    }

    /** WRAP, PADDED WRAP. */
    private static final class Wraps {
        private static final long WRAP_SIGN = 0xa6a6a6a6a6a6a6a6L;
        private static final long PADDED_SIGN = 0xa65959a6L;

        private final Cipher cipher;
        private final Block block;

        Wraps(Cipher cipher) {
            this.cipher = cipher;
            block = new Block();
        }

        void lockWrap(Row text, Row made) {
            layBehind(text, made);
            mixIn(WRAP_SIGN, made);
        }

        boolean unlockWrap(Row text, Row made) {
            made.appendRow(text);
            long a = mixOut(made);
            takeOff(made);
            return a == WRAP_SIGN;
        }

        void lockPaddedWrap(Row text, Row made) {
            layBehind(text, made);
            long a = PADDED_SIGN << 32 | text.size;
            if (made.size == 16) {
                block.become(a, made.eightAt(8));
                cipher.encrypt(block);
                made.keep(0);
                made.appendBlock(block, 16);
            } else {
                mixIn(a, made);
            }
        }

        boolean unlockPaddedWrap(Row text, Row made) {
            made.appendRow(text);
            long a;
            if (made.size == 16) {
                block.read(made, 0);
                cipher.decrypt(block);
                a = block.high;
                made.putEight(8, block.low);
            } else {
                a = mixOut(made);
            }
            takeOff(made);
            if (wrongEnd(a, made) != 0) {
                return false;
            }
            made.keep((int) (a & 0xffffffffL));
            return true;
        }

        /** Not 0 if A or the 0s are not right: all is looked at before anything is decided. */
        private static long wrongEnd(long a, Row made) {
            long told = a & 0xffffffffL;
            long wrong = a >>> 32 ^ PADDED_SIGN;
            wrong |= (told - (made.size - 7) | made.size - told) >> 63;
            for (int i = made.size - 8; i < made.size; i++) {
                long behind = told - 1 - i >> 63;
                wrong |= behind & made.at(i);
            }
            return wrong;
        }

        private static void layBehind(Row text, Row made) {
            for (int i = 0; i < 8; i++) {
                made.append(0);
            }
            made.appendRow(text);
            made.padTo(8);
        }

        private static void takeOff(Row made) {
            for (int i = 8; i < made.size; i++) {
                made.put(i - 8, made.at(i));
            }
            made.keep(made.size - 8);
        }

        private void mixIn(long sign, Row made) {
            int k = (made.size >> 3) - 1;
            long a = sign;
            for (int j = 0; j < 6; j++) {
                for (int i = 1; i <= k; i++) {
                    block.become(a, made.eightAt(8 * i));
                    cipher.encrypt(block);
                    a = block.high ^ k * j + i;
                    made.putEight(8 * i, block.low);
                }
            }
            made.putEight(0, a);
        }

        private long mixOut(Row made) {
            int k = (made.size >> 3) - 1;
            long a = made.eightAt(0);
            for (int j = 5; j >= 0; j--) {
                for (int i = k; i >= 1; i--) {
                    block.become(a ^ k * j + i, made.eightAt(8 * i));
                    cipher.decrypt(block);
                    a = block.high;
                    made.putEight(8 * i, block.low);
                }
            }
            return a;
        }
    }

    /** GALOIS and its SUM. */
    private static final class Galois {
        private final Cipher cipher;
        private final Row start;
        private final Row aside;
        private final Block h;
        private final Block j;
        private final Block counter;
        private final Block block;
        private final Block pad;

        Galois(Cipher cipher, Row start, Row aside) {
            this.cipher = cipher;
            this.start = start;
            this.aside = aside;
            h = new Block();
            j = new Block();
            counter = new Block();
            block = new Block();
            pad = new Block();
        }

        void sumAlone(Row row, Block y) {
            makeH();
            y.become(0, 0);
            absorb(row, y);
        }

        void run(Row text, boolean opening, Row made, Block tag) {
            makeH();
            makeJ();
            count(text, made);
            tag.become(0, 0);
            absorb(aside, tag);
            absorb(opening ? text : made, tag);
            block.become(8L * aside.size, 8L * text.size);
            absorbBlock(tag);
            cipher.encrypt(j);
            tag.add(j);
        }

        private void makeH() {
            h.become(0, 0);
            cipher.encrypt(h);
        }

        private void makeJ() {
            if (start.size == 12) {
                j.read(start, 0);
                j.addOctet(15, 1);
                return;
            }
            j.become(0, 0);
            absorb(start, j);
            block.become(0, 8L * start.size);
            absorbBlock(j);
        }

        private void absorb(Row row, Block y) {
            for (int at = 0; at < row.size; at += 16) {
                block.read(row, at);
                absorbBlock(y);
            }
        }

        private void absorbBlock(Block y) {
            y.add(block);
            y.multiply(h);
        }

        private void count(Row text, Row made) {
            counter.copy(j);
            for (int at = 0; at < text.size; at += 16) {
                counter.addOneToLastFour();
                pad.copy(counter);
                cipher.encrypt(pad);
                block.read(text, at);
                block.add(pad);
                made.appendBlock(block, Math.min(16, text.size - at));
            }
        }
    }

    /** MAC and CHAIN'S sum, and what rests on them: COUNTED, TWICE, MADE. */
    private static final class Maced {
        private final Cipher first;
        private final Cipher second;
        private final Streams streams;
        private final Row start;
        private final Row aside;
        private final Row work;
        private final Block subkey;
        private final Block d;
        private final Block number;

        Maced(Cipher first, Cipher second, Streams streams, Row start, Row aside, Row work) {
            this.first = first;
            this.second = second;
            this.streams = streams;
            this.start = start;
            this.aside = aside;
            this.work = work;
            subkey = new Block();
            d = new Block();
            number = new Block();
        }

        void chainSum(Row row, Block y) {
            y.become(0, 0);
            for (int at = 0; at < row.size; at += 16) {
                y.addPart(row, at);
                first.encrypt(y);
            }
        }

        void mac(Row row, Block y) {
            int last = row.size == 0 ? 0 : row.size - 1 & ~15;
            y.become(0, 0);
            for (int at = 0; at < last; at += 16) {
                y.addPart(row, at);
                first.encrypt(y);
            }
            subkey.become(0, 0);
            first.encrypt(subkey);
            subkey.makeDouble();
            y.addPart(row, last);
            if (row.size - last < 16) {
                y.addOctet(row.size - last, 128);
                subkey.makeDouble();
            }
            y.add(subkey);
            first.encrypt(y);
        }

        void runCounted(Row text, boolean opening, int m, Row made, Block tag) {
            int q = 15 - start.size;
            number.become(0, 0);
            number.addOctet(0, q - 1);
            for (int i = 0; i < start.size; i++) {
                number.addOctet(1 + i, start.at(i));
            }
            d.copy(number);
            first.encrypt(d);
            // The number's q octets are at least two and DATA has few blocks: none runs over.
            number.addOne();
            streams.count(first, number, text, made);
            layCounted(opening ? made : text, q, m);
            chainSum(work, tag);
            tag.add(d);
        }

        private void layCounted(Row plain, int q, int m) {
            work.keep(0);
            work.append((aside.size > 0 ? 64 : 0) + 8 * ((m - 2) / 2) + q - 1);
            work.appendRow(start);
            for (int i = q - 1; i >= 0; i--) {
                work.append((int) ((long) plain.size >>> (8 * i)));
            }
            if (aside.size > 0) {
                work.append(aside.size >> 8);
                work.append(aside.size);
                work.appendRow(aside);
                work.padTo(16);
            }
            work.appendRow(plain);
            work.padTo(16);
        }

        void runTwice(Row text, boolean opening, Row made, Block tag) {
            layNumbered(0, start);
            mac(work, number);
            streams.count(first, number, text, made);
            tag.copy(number);
            layNumbered(1, aside);
            mac(work, d);
            tag.add(d);
            layNumbered(2, opening ? text : made);
            mac(work, d);
            tag.add(d);
        }

        private void layNumbered(int k, Row row) {
            work.keep(0);
            for (int i = 0; i < 15; i++) {
                work.append(0);
            }
            work.append(k);
            work.appendRow(row);
        }

        void lockMade(Row text, Row made) {
            makeV(text);
            made.appendBlock(number, 16);
            countFrom(number, text, made);
        }

        boolean unlockMade(Block told, Row text, Row made) {
            countFrom(told, text, made);
            makeV(made);
            return number.same(told);
        }

        private void countFrom(Block v, Row text, Row made) {
            d.become(v.high, v.low & 0x7fffffff7fffffffL);
            streams.count(second, d, text, made);
        }

        private void makeV(Row plain) {
            work.keep(0);
            work.append(0);
            work.padTo(16);
            mac(work, d);
            if (aside.size > 0) {
                mac(aside, number);
                d.makeDouble();
                d.add(number);
            }
            if (start.size > 0) {
                mac(start, number);
                d.makeDouble();
                d.add(number);
            }
            work.copyPart(plain, 0, plain.size);
            layEnd(plain.size);
            mac(work, number);
        }

        private void layEnd(int size) {
            if (size < 16) {
                work.append(128);
                work.padTo(16);
                d.makeDouble();
            }
            int last = work.size - 16;
            number.read(work, last);
            number.add(d);
            work.keep(last);
            work.appendBlock(number, 16);
        }
    }

    /** OFFSETS. */
    private static final class Offsets {
        private final Cipher cipher;
        private final Row start;
        private final Row aside;
        private final Block star;
        private final Block dollar;
        private final Block step;
        private final Block offset;
        private final Block total;
        private final Block block;
        private final Block pad;

        Offsets(Cipher cipher, Row start, Row aside) {
            this.cipher = cipher;
            this.start = start;
            this.aside = aside;
            star = new Block();
            dollar = new Block();
            step = new Block();
            offset = new Block();
            total = new Block();
            block = new Block();
            pad = new Block();
        }

        void run(Row text, boolean opening, int m, Row made, Block tag) {
            star.become(0, 0);
            cipher.encrypt(star);
            dollar.copy(star);
            dollar.makeDouble();
            beginOffset(m);
            total.become(0, 0);
            int over = text.size & 15;
            int whole = text.size - over;
            for (int at = 0; at < whole; at += 16) {
                moveOffset((at >> 4) + 1);
                block.read(text, at);
                if (opening) {
                    unlockBlock();
                } else {
                    lockBlock();
                }
                made.appendBlock(block, 16);
            }
            if (over != 0) {
                runPart(text, opening, made);
            }
            tag.copy(total);
            tag.add(offset);
            tag.add(dollar);
            cipher.encrypt(tag);
            addHash(tag);
        }

        private void beginOffset(int m) {
            block.become(0, 0);
            block.addOctet(0, (8 * m & 127) << 1);
            block.addOctet(15 - start.size, 1);
            for (int i = 0; i < start.size; i++) {
                block.addOctet(16 - start.size + i, start.at(i));
            }
            int bits = (int) block.low & 63;
            block.low &= ~63L;
            cipher.encrypt(block);
            long behind = block.high ^ (block.high << 8 | block.low >>> 56);
            offset.become(window(block.high, block.low, bits), window(block.low, behind, bits));
        }

        /** Shifted in two steps, as a shift by 64 would shift by nothing. */
        private static long window(long a, long b, int bits) {
            return a << bits | b >>> 1 >>> (63 - bits);
        }

        private void moveOffset(int i) {
            step.copy(dollar);
            step.makeDouble();
            for (int bit = 0; bit < 16 && (i >> bit & 1) == 0; bit++) {
                step.makeDouble();
            }
            offset.add(step);
        }

        private void lockBlock() {
            total.add(block);
            block.add(offset);
            cipher.encrypt(block);
            block.add(offset);
        }

        private void unlockBlock() {
            block.add(offset);
            cipher.decrypt(block);
            block.add(offset);
            total.add(block);
        }

        private void runPart(Row text, boolean opening, Row made) {
            int over = text.size & 15;
            offset.add(star);
            pad.copy(offset);
            cipher.encrypt(pad);
            pad.keepFirst(over);
            block.read(text, text.size - over);
            if (!opening) {
                total.add(block);
            }
            block.add(pad);
            if (opening) {
                total.add(block);
            }
            total.addOctet(over, 128);
            made.appendBlock(block, over);
        }

        private void addHash(Block tag) {
            int over = aside.size & 15;
            int whole = aside.size - over;
            offset.become(0, 0);
            for (int at = 0; at < whole; at += 16) {
                moveOffset((at >> 4) + 1);
                block.read(aside, at);
                block.add(offset);
                cipher.encrypt(block);
                tag.add(block);
            }
            if (over != 0) {
                block.read(aside, whole);
                block.addOctet(over, 128);
                block.add(offset);
                block.add(star);
                cipher.encrypt(block);
                tag.add(block);
            }
        }
    }
}
