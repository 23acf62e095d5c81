/** Promise 13: the round keys, by plain arithmetic in the field. */
public final class RoundKeyTest {
    private static final Check check = new Check();

    public static void main(String[] args) {
        everyBox();
        everyOctet();
        wrongKeys();
        keyIsReadAnew();
        check.end();
    }

    static int times(int a, int b) {
        int product = 0;
        for (int i = 0; i < 8; i++) {
            product ^= (b >> i & 1) * (a << i);
        }
        for (int i = 14; i >= 8; i--) {
            product ^= (product >> i & 1) * (0x11b << (i - 8));
        }
        return product;
    }

    static int box(int b) {
        int c = 1;
        for (int i = 0; i < 254; i++) {
            c = times(c, b);
        }
        int boxed = 0;
        for (int i = 0; i < 8; i++) {
            int bit = c >> i ^ c >> (i + 4) % 8 ^ c >> (i + 5) % 8 ^ c >> (i + 6) % 8 ^ c >> (i + 7) % 8 ^ 99 >> i;
            boxed |= (bit & 1) << i;
        }
        return boxed;
    }

    /** The words, one octet each in an int. */
    static int[] roundKeys(byte[] key) {
        int n = key.length / 4;
        int[] w = new int[16 * (n + 7)];
        for (int i = 0; i < key.length; i++) {
            w[i] = key[i] & 255;
        }
        int power = 1;
        for (int i = n; i < w.length / 4; i++) {
            for (int j = 0; j < 4; j++) {
                int t = w[4 * i - 4 + j];
                if (i % n == 0) {
                    t = box(w[4 * i - 4 + (j + 1) % 4]) ^ (j == 0 ? power : 0);
                } else if (n == 8 && i % 8 == 4) {
                    t = box(t);
                }
                w[4 * i + j] = w[4 * (i - n) + j] ^ t;
            }
            if (i % n == 0) {
                power = times(power, 2);
            }
        }
        return w;
    }

    private static void everyBox() {
        SlicedModes x = new SlicedModes();
        x.feed(0, 0, 8);
        x.feed(0, 0, 8);
        for (int b = 0; b < 256; b++) {
            x.alter(0, 13, b);
            check.due("the box of " + b, x.roundKey(16), box(b) ^ 1);
        }
    }

    private static void everyOctet() {
        for (int size = 16; size <= 32; size += 8) {
            for (int seed = 0; seed < 20; seed++) {
                SlicedModes x = new SlicedModes();
                x.fill(0, size, seed);
                int[] want = roundKeys(Check.row(x, 0));
                for (int i = 0; i < want.length; i++) {
                    check.due(size + ": roundKey(" + i + ")", x.roundKey(i), want[i]);
                }
                for (int i : new int[] {-1, want.length, Integer.MIN_VALUE, Integer.MAX_VALUE}) {
                    check.due(size + ": roundKey(" + i + ")", x.roundKey(i), -2);
                }
            }
        }
    }

    private static void wrongKeys() {
        for (int size = 0; size <= 64; size++) {
            SlicedModes x = new SlicedModes();
            x.fill(0, size, 5);
            boolean right = size == 16 || size == 24 || size == 32;
            check.due("a key of " + size + ": roundKey(0)", x.roundKey(0), right ? x.octet(0, 0) : -3);
            check.due("a key of " + size + ": roundKey(-1)", x.roundKey(-1), right ? -2 : -3);
            check.due("a key of " + size + ": roundKey(240)", x.roundKey(240), right ? -2 : -3);
        }
    }

    private static void keyIsReadAnew() {
        SlicedModes x = new SlicedModes();
        x.fill(0, 32, 1);
        check.holds("roundKey(239)", x.roundKey(239) >= 0);
        x.cut(0, 16);
        check.due("roundKey(176) of the shorter key", x.roundKey(176), -2);
        check.due("roundKey(175)", x.roundKey(175), roundKeys(Check.row(x, 0))[175]);
        x.fill(1, 64, 1);
        x.fill(2, 16, 1);
        x.fill(0, 16, 9);
        byte[] before = Check.out(x);
        x.roundKey(100);
        check.due("OUT after roundKey", Check.out(x), before);
    }
}
