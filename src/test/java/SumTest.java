import java.util.Arrays;

/** Promise 10 and Terms 3: the SUMS with their lengths, sentence by sentence. */
public final class SumTest {
    private static final byte[] ZEROS = new byte[16];
    private static final Check check = new Check();

    public static void main(String[] args) {
        mac();
        macEnds();
        chainSum();
        galoisSum();
        keys();
        noSuchKind();
        notLookedAt();
        check.end();
    }

    private static Rows rows(int size) {
        return new Rows(1).data(Rows.octets(size, 1));
    }

    private static void sums(int kind, Rows rows, byte[] want) {
        Subject x = rows.object();
        String what = "sum(" + kind + ") of " + rows.data.length;
        check.due(what, x.sum(kind), 16);
        check.due(what, Check.out(x), want);
        check.due(what + " again", x.sum(kind), 16);
        check.due(what + " again", Check.out(x), want);
        check.due("behind the 16 octets", x.out(16), -2);
        check.due("DATA after it", Check.row(x, Check.DATA), rows.data);
    }

    private static void mac() {
        check.says("Terms 3, 1: MAC of DATA of any length: 16");
        for (int n = 0; n <= 512; n++) {
            sums(1, rows(n), rows(n).reference().summed(1, rows(n).data));
        }
    }

    private static void macEnds() {
        check.says("Terms 3, 1: its last block of 16 octets + k1, or, if it is a part or there is none, (it, 128, 0s) + k2");
        byte[] key = rows(0).key;
        byte[] k1 = Reference.doubled(Reference.e(key, ZEROS));
        byte[] k2 = Reference.doubled(k1);
        byte[] nothing = Reference.plus(Check.octets("80000000000000000000000000000000"), k2);
        sums(1, rows(0), Reference.e(key, nothing));
        for (int n = 1; n <= 32; n++) {
            byte[] data = rows(n).data;
            byte[] before = n > 16 ? Reference.e(key, Reference.part(data, 0, 16)) : ZEROS;
            byte[] last = Reference.part(data, n > 16 ? 16 : 0, 16);
            byte[] end = last.length == 16 ? Reference.plus(last, k1)
                    : Reference.plus(Arrays.copyOf(Reference.join(last, new byte[] {(byte) 128}), 16), k2);
            sums(1, rows(n), Reference.e(key, Reference.plus(before, end)));
        }
    }

    private static void chainSum() {
        check.says("Terms 3, 2: the last block of CHAIN with START 0; 16 k octets, k 1 or more");
        for (int n = 0; n <= 512; n++) {
            if (n % 16 == 0 && n > 0) {
                byte[] chained = new Reference(rows(n).key, ZEROS, ZEROS, 16, false).sealed(2, rows(n).data);
                sums(2, rows(n), Reference.part(chained, n - 16, 16));
            } else {
                check.due("sum(2) of " + n, rows(n).object().sum(2), -2);
            }
        }
    }

    private static void galoisSum() {
        check.says("Terms 3, 3: SUM of GALOIS by H of the KEY: 16 k octets, k 1 or more");
        for (int n = 0; n <= 512; n++) {
            if (n % 16 == 0 && n > 0) {
                sums(3, rows(n), rows(n).reference().summed(3, rows(n).data));
            } else {
                check.due("sum(3) of " + n, rows(n).object().sum(3), -2);
            }
        }
        // x^0 is the factor that changes nothing, x^127 * x is where the modulus comes in.
        byte[] h = Reference.e(rows(0).key, ZEROS);
        sums(3, rows(0).data(Check.octets("80000000000000000000000000000000")), h);
        sums(3, rows(0).data(ZEROS), ZEROS);
        sums(3, rows(0).data(Check.octets("40000000000000000000000000000000")), timesX(h));
        byte[] last = h;
        for (int i = 0; i < 127; i++) {
            last = timesX(last);
        }
        sums(3, rows(0).data(Check.octets("00000000000000000000000000000001")), last);
    }

    /** The highest bit of the first octet is at x^0; x^128 is x^7 + x^2 + x + 1. */
    private static byte[] timesX(byte[] block) {
        byte[] made = new byte[16];
        for (int i = 1; i < 128; i++) {
            int bit = block[(i - 1) / 8] >> (7 - (i - 1) % 8) & 1;
            made[i / 8] |= (byte) (bit << (7 - i % 8));
        }
        made[0] ^= (byte) ((block[15] & 1) * 0xe1);
        return made;
    }

    private static void keys() {
        check.says("Terms 3: SUMS of DATA, with the KEY of one (-3)");
        for (int kind = 1; kind <= 3; kind++) {
            for (int n = 0; n <= 64; n++) {
                Rows rows = rows(32).key(Rows.octets(n, 1));
                if (n == 16 || n == 24 || n == 32) {
                    sums(kind, rows, rows.reference().summed(kind, rows.data));
                } else {
                    check.due("sum(" + kind + ") with a KEY of " + n, rows.object().sum(kind), -3);
                }
            }
        }
    }

    private static void noSuchKind() {
        check.says("Promise 10: by a kind 1 .. 3: 16. -2");
        for (int kind : new int[] {0, 4, -1, 5, 12, 16, 17, 257, Integer.MIN_VALUE, Integer.MAX_VALUE}) {
            check.due("sum(" + kind + ")", rows(32).object().sum(kind), -2);
        }
    }

    private static void notLookedAt() {
        check.says("Terms 3: a SUM is of DATA with the KEY: START, ASIDE and m are not looked at");
        for (int kind = 1; kind <= 3; kind++) {
            byte[] want = rows(32).reference().summed(kind, rows(32).data);
            for (int n : new int[] {0, 1, 16, 64}) {
                sums(kind, rows(32).start(Rows.octets(n, 2)).aside(Rows.octets(n, 3)).tag(5), want);
            }
        }
    }
}
