/** Promise 13 and the round keys of Terms 1, sentence by sentence, by plain arithmetic in the field. */
public final class RoundKeyTest {
    private static final Check check = new Check();

    public static void main(String[] args) {
        everyBox();
        everyOctet();
        publishedKeys();
        none();
        wrongKeys();
        keyBeforePlace();
        keyIsReadAnew();
        check.end();
    }

    static int times(int a, int b) {
        int product = 0;
        for (int i = 0; i < 8; i++) {
            product ^= (b >> i & 1) * (a << i);
        }
        for (int i = 14; i >= 8; i--) {
            product ^= (product >> i & 1) * (0x11b << (i - 8));
        }
        return product;
    }

    static int box(int b) {
        int c = 1;
        for (int i = 0; i < 254; i++) {
            c = times(c, b);
        }
        int boxed = 0;
        for (int i = 0; i < 8; i++) {
            int bit = c >> i ^ c >> (i + 4) % 8 ^ c >> (i + 5) % 8 ^ c >> (i + 6) % 8 ^ c >> (i + 7) % 8 ^ 99 >> i;
            boxed |= (bit & 1) << i;
        }
        return boxed;
    }

    /** The words, one octet each in an int. */
    static int[] roundKeys(byte[] key) {
        int n = key.length / 4;
        int[] w = new int[16 * (n + 7)];
        for (int i = 0; i < key.length; i++) {
            w[i] = key[i] & 255;
        }
        int power = 1;
        for (int i = n; i < w.length / 4; i++) {
            for (int j = 0; j < 4; j++) {
                int t = w[4 * i - 4 + j];
                if (i % n == 0) {
                    t = box(w[4 * i - 4 + (j + 1) % 4]) ^ (j == 0 ? power : 0);
                } else if (n == 8 && i % 8 == 4) {
                    t = box(t);
                }
                w[4 * i + j] = w[4 * (i - n) + j] ^ t;
            }
            if (i % n == 0) {
                power = times(power, 2);
            }
        }
        return w;
    }

    private static void everyBox() {
        check.says("Terms 1: THE BOX of b: the inverse; 0 of 0");
        Subject x = new Subject();
        x.feed(Check.KEY, 0, 8);
        x.feed(Check.KEY, 0, 8);
        check.due("the box of 0, with 1 added", x.roundKey(16), 99 ^ 1);
        check.due("the box of 0", x.roundKey(17), 99);
        for (int b = 0; b < 256; b++) {
            x.alter(Check.KEY, 13, b);
            check.due("the box of " + b, x.roundKey(16), box(b) ^ 1);
        }
    }

    private static void everyOctet() {
        check.says("Promise 13: Octet i of the round keys of the KEY (16, 24, 32 octets), word by word");
        for (int size = 16; size <= 32; size += 8) {
            for (int seed = 0; seed < 20; seed++) {
                Subject x = new Subject();
                x.fill(Check.KEY, size, seed);
                int[] want = roundKeys(Check.row(x, Check.KEY));
                for (int i = 0; i < want.length; i++) {
                    check.due(size + ": roundKey(" + i + ")", x.roundKey(i), want[i]);
                }
            }
        }
    }

    /** The last words need the powers of 2 of the field up to where they are taken modulo. */
    private static void publishedKeys() {
        check.says("Terms 1: w(0) .. w(4 r + 3); 2^(i / n - 1) (of the field)");
        lastWord("2b7e151628aed2a6abf7158809cf4f3c", "b6630ca6");
        lastWord("8e73b0f7da0e6452c810f32b809079e562f8ead2522c6b7b", "01002202");
        lastWord("603deb1015ca71be2b73aef0857d77811f352c073b6108d72d9810a30914dff4", "706c631e");
        Subject x = new Subject();
        Check.set(x, Check.KEY, Check.octets("2b7e151628aed2a6abf7158809cf4f3c"));
        // 2^8 and 2^9 stand in w(36) and w(40): ac7766f3 and d014f9a8.
        byte[] want = Check.octets("ac7766f3");
        byte[] next = Check.octets("d014f9a8");
        for (int i = 0; i < 4; i++) {
            check.due("w(36), octet " + i, x.roundKey(4 * 36 + i), want[i] & 255);
            check.due("w(40), octet " + i, x.roundKey(4 * 40 + i), next[i] & 255);
        }
    }

    private static void lastWord(String key, String word) {
        Subject x = new Subject();
        byte[] octets = Check.octets(key);
        Check.set(x, Check.KEY, octets);
        byte[] want = Check.octets(word);
        int behind = 4 * octets.length + 112;
        for (int i = 0; i < 4; i++) {
            check.due("the last word, octet " + i, x.roundKey(behind - 4 + i), want[i] & 255);
        }
        check.due("behind the last word", x.roundKey(behind), -2);
    }

    private static void none() {
        check.says("Promise 13: -2 there is none");
        int[] counts = {176, 208, 240};
        for (int j = 0; j < 3; j++) {
            Subject x = new Subject();
            x.fill(Check.KEY, 16 + 8 * j, 7);
            check.holds("the last one is there", x.roundKey(counts[j] - 1) >= 0);
            for (int i : new int[] {-1, counts[j], counts[j] + 1, 1000, Integer.MIN_VALUE, Integer.MAX_VALUE}) {
                check.due(16 + 8 * j + ": roundKey(" + i + ")", x.roundKey(i), -2);
            }
        }
    }

    private static void wrongKeys() {
        check.says("Promise 13: -3");
        for (int size = 0; size <= 64; size++) {
            Subject x = new Subject();
            x.fill(Check.KEY, size, 5);
            boolean right = size == 16 || size == 24 || size == 32;
            int want = right ? x.octet(Check.KEY, 0) : -3;
            check.due("a key of " + size + ": roundKey(0)", x.roundKey(0), want);
        }
    }

    private static void keyBeforePlace() {
        check.says("Terms 3: -3 before -2 (roundKey)");
        for (int size = 0; size <= 64; size++) {
            Subject x = new Subject();
            x.fill(Check.KEY, size, 5);
            boolean right = size == 16 || size == 24 || size == 32;
            for (int i : new int[] {-1, 240, 1024, Integer.MIN_VALUE, Integer.MAX_VALUE}) {
                check.due("a key of " + size + ": roundKey(" + i + ")", x.roundKey(i), right ? -2 : -3);
            }
        }
    }

    private static void keyIsReadAnew() {
        check.says("Promise 13: of the KEY, as it is now");
        Subject x = new Subject();
        x.fill(Check.KEY, 32, 1);
        check.holds("roundKey(239)", x.roundKey(239) >= 0);
        x.cut(Check.KEY, 16);
        check.due("roundKey(176) of the shorter key", x.roundKey(176), -2);
        check.due("roundKey(175)", x.roundKey(175), roundKeys(Check.row(x, Check.KEY))[175]);
        x.alter(Check.KEY, 0, x.octet(Check.KEY, 0) ^ 1);
        check.due("roundKey(175)", x.roundKey(175), roundKeys(Check.row(x, Check.KEY))[175]);
        x.fill(Check.DATA, 64, 1);
        x.seal(1);
        byte[] before = Check.out(x);
        x.roundKey(100);
        check.due("OUT after roundKey", Check.out(x), before);
    }
}
