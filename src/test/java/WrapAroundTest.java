import java.math.BigInteger;

/** Terms 1 and 2 where numbers go over their end: DOUBLED, DOUBLE'D, ONE MORE, modulo 2^32. */
public final class WrapAroundTest {
    private static final byte[] ZEROS = new byte[16];
    private static final byte[] ONES = Check.octets("ffffffffffffffffffffffffffffffff");
    private static final Check check = new Check();

    public static void main(String[] args) {
        doubledPublished();
        doubledOver();
        doubledInMade();
        doubledInOffsets();
        doubledLowFirst();
        oneMore();
        oneMoreInTwice();
        oneMoreInMade();
        fourOctetsAlone();
        countedNeverOver();
        stepsBeyondAnOctet();
        check.end();
    }

    private static byte[] sealedBy(int kind, byte[] key, byte[] data, byte[] start) {
        Subject x = new Rows(kind).key(key).data(data).start(start).aside(new byte[0]).object();
        check.holds("seal(" + kind + ")", x.seal(kind) >= 0);
        return Check.out(x);
    }

    /** D of the MAC of a block 0 is k1; D of the MAC of nothing is k2, with 128 in its first octet. */
    private static byte[] macKey(byte[] key, boolean second) {
        Subject x = new Subject();
        Check.set(x, Check.KEY, key);
        Check.set(x, Check.DATA, second ? new byte[0] : ZEROS);
        check.due("sum(1)", x.sum(1), 16);
        byte[] k = Reference.d(key, Check.out(x));
        k[0] ^= (byte) (second ? 128 : 0);
        return k;
    }

    private static void doubledPublished() {
        check.says("Terms 1: DOUBLED: times 2, and 135 added if the 129th bit was 1 (as published)");
        byte[] key = Check.octets("2b7e151628aed2a6abf7158809cf4f3c");
        check.due("E(0)", Reference.e(key, ZEROS), Check.octets("7df76b0c1ab899b33e42f047b91b546f"));
        check.due("k1", macKey(key, false), Check.octets("fbeed618357133667c85e08f7236a8de"));
        check.due("k2", macKey(key, true), Check.octets("f7ddac306ae266ccf90bc11ee46d513b"));
    }

    /** A key whose E(0) begins with these two bits and has this bit at the top of its other half. */
    private static byte[] keyWith(int firstBits, int middleBit) {
        for (int seed = 0; seed < 1000; seed++) {
            byte[] key = Rows.octets(16, seed);
            byte[] zero = Reference.e(key, ZEROS);
            if ((zero[0] >> 6 & 3) == firstBits && (zero[8] >> 7 & 1) == middleBit) {
                return key;
            }
        }
        throw new IllegalStateException("no such key");
    }

    private static byte[] doubled(byte[] block) {
        BigInteger twice = new BigInteger(1, block).multiply(BigInteger.TWO);
        BigInteger rest = twice.mod(BigInteger.ONE.shiftLeft(128));
        return Reference.block(twice.equals(rest) ? rest : rest.xor(BigInteger.valueOf(135)));
    }

    private static void doubledOver() {
        check.says("Terms 1: DOUBLED: without its 129th bit, and, if that was 1, 135 added");
        for (int bits = 0; bits < 8; bits++) {
            byte[] key = keyWith(bits >> 1, bits & 1);
            byte[] k1 = doubled(Reference.e(key, ZEROS));
            check.due("k1 of E(0) with the bits " + bits, macKey(key, false), k1);
            check.due("k2 of E(0) with the bits " + bits, macKey(key, true), doubled(k1));
        }
    }

    /** Of one block p by MADE, D of V is p + d + k1, so d is seen. */
    private static void doubledInMade() {
        check.says("Terms 1: DOUBLED of d in MADE, over and not over");
        boolean over = false;
        boolean notOver = false;
        for (int seed = 0; seed < 20; seed++) {
            byte[] key = Rows.octets(16, seed);
            byte[] aside = Rows.octets(16, seed + 50);
            byte[] k1 = doubled(Reference.e(key, ZEROS));
            byte[] d = Reference.e(key, k1);
            over |= d[0] < 0;
            notOver |= d[0] >= 0;
            byte[] want = Reference.plus(doubled(d), Reference.e(key, Reference.plus(aside, k1)));
            Subject x = new Rows(15).key(Reference.join(key, key)).data(ZEROS).start(new byte[0]).aside(aside).object();
            check.due("seal(15)", x.seal(15), 32);
            byte[] v = Reference.part(Check.out(x), 0, 16);
            check.due("d", Reference.plus(Reference.d(key, v), k1), want);
        }
        check.holds("both cases were met", over && notOver);
    }

    /** Of DATA 0 by OFFSETS, O + c is E(O): so each O can be checked, and with it each L(i). */
    private static void doubledInOffsets() {
        check.says("Terms 2, 16: L$ = DOUBLED, L(0) = DOUBLED L$, L(i) = DOUBLED L(i - 1), z up to 5");
        for (int bits = 0; bits < 8; bits++) {
            byte[] key = keyWith(bits >> 1, bits & 1);
            byte[] start = Rows.octets(12, bits);
            byte[] c = sealedBy(16, key, new byte[512], start);
            byte[] l = doubled(doubled(Reference.e(key, ZEROS)));
            byte[] o = firstOffset(key, start, l);
            for (int i = 1; i <= 32; i++) {
                if (i > 1) {
                    o = Reference.plus(o, levels(l, Integer.numberOfTrailingZeros(i)));
                }
                byte[] want = Reference.plus(o, Reference.e(key, o));
                check.due("block " + i, Reference.part(c, 16 * i - 16, 16), want);
            }
        }
    }

    private static byte[] levels(byte[] l, int z) {
        byte[] made = l;
        for (int i = 0; i < z; i++) {
            made = doubled(made);
        }
        return made;
    }

    private static byte[] firstOffset(byte[] key, byte[] start, byte[] l) {
        byte[] n = Reference.join(Check.octets("00000001"), start);
        int b = n[15] & 63;
        n[15] &= (byte) 192;
        byte[] k = Reference.e(key, n);
        byte[] behind = Reference.plus(Reference.part(k, 0, 8), Reference.part(k, 1, 8));
        BigInteger all = new BigInteger(1, Reference.join(k, behind));
        return Reference.plus(Reference.block(all.shiftRight(64 - b)), l);
    }

    private static void doubledLowFirst() {
        check.says("Terms 2, 9: DOUBLE'D: the lowest octet first, times 2 without its 129th bit, 135 added if that was 1");
        String[][] pairs = {
            {"00000000000000000000000000000080", "87000000000000000000000000000000"},
            {"ffffffffffffffffffffffffffffffff", "79ffffffffffffffffffffffffffffff"},
            {"80000000000000000000000000000080", "87010000000000000000000000000000"},
            {"80000000000000000000000000000000", "00010000000000000000000000000000"},
            {"00000000000000800000000000000000", "00000000000000000100000000000000"},
            {"00000000000000008000000000000000", "00000000000000000001000000000000"},
            {"00000000000000000000000000000040", "00000000000000000000000000000080"},
            {"01000000000000000000000000000000", "02000000000000000000000000000000"},
            {"00000000000000000000000000000000", "00000000000000000000000000000000"}};
        byte[] key = Rows.octets(16, 1);
        byte[] other = Rows.octets(16, 2);
        for (String[] pair : pairs) {
            byte[] t = Check.octets(pair[0]);
            byte[] next = Check.octets(pair[1]);
            byte[] c = sealedBy(9, Reference.join(key, other), new byte[32], Reference.d(other, t));
            check.due("t", Reference.part(c, 0, 16), Reference.plus(Reference.e(key, t), t));
            check.due("t DOUBLE'D of " + pair[0], Reference.part(c, 16, 16),
                    Reference.plus(Reference.e(key, next), next));
        }
    }

    private static void oneMore() {
        check.says("Terms 1: ONE MORE: a block plus 1 as a number modulo 2^128");
        String[][] pairs = {
            {"ffffffffffffffffffffffffffffffff", "00000000000000000000000000000000"},
            {"fffffffffffffffffffffffffffffffe", "ffffffffffffffffffffffffffffffff"},
            {"0000000000000000ffffffffffffffff", "00000000000000010000000000000000"},
            {"00000000ffffffffffffffffffffffff", "00000001000000000000000000000000"},
            {"7fffffffffffffffffffffffffffffff", "80000000000000000000000000000000"},
            {"000000000000000000000000ffffffff", "00000000000000000000000100000000"},
            {"0000000000000000000000007fffffff", "00000000000000000000000080000000"},
            {"00000000000000007fffffffffffffff", "00000000000000008000000000000000"},
            {"000000000000000000000000000000ff", "00000000000000000000000000000100"},
            {"00000000000000000000000000000000", "00000000000000000000000000000001"}};
        byte[] key = Rows.octets(16, 1);
        for (String[] pair : pairs) {
            byte[] want = Reference.e(key, Reference.join(Check.octets(pair[0]), Check.octets(pair[1])));
            check.due("COUNT from " + pair[0], sealedBy(8, key, new byte[32], Check.octets(pair[0])), want);
        }
        byte[] want = Reference.e(key, Reference.join(Check.octets("fffffffffffffffffffffffffffffffe"), ONES, ZEROS));
        check.due("COUNT on, over the end", sealedBy(8, key, new byte[48], Check.octets("fffffffffffffffffffffffffffffffe")), want);
    }

    /** N of a START of 16 octets is E(E(0) + START + k1), so START can be had of N. */
    private static void oneMoreInTwice() {
        check.says("Terms 2, 14: c = COUNT with N as START, over 2^128");
        byte[] key = Rows.octets(16, 1);
        byte[] zero = Reference.e(key, ZEROS);
        byte[] start = Reference.plus(Reference.d(key, ONES), Reference.plus(zero, doubled(zero)));
        byte[] c = sealedBy(14, key, new byte[32], start);
        check.due("c", Reference.part(c, 0, 32), Reference.e(key, Reference.join(ONES, ZEROS)));
    }

    /** V of two blocks is E(E(the first) + the second + d + k1), so the second can be had of V. */
    private static void oneMoreInMade() {
        check.says("Terms 2, 15: V without the highest bits of its octets 8 and 12, and ONE MORE of that");
        String[][] cases = {
            {"ffffffffffffffffffffffffffffffff", "ffffffffffffffff7fffffff7fffffff", "ffffffffffffffff7fffffff80000000"},
            {"00000000000000008000000080000000", "00000000000000000000000000000000", "00000000000000000000000000000001"},
            {"8080808080808080ff808080ff8080ff", "80808080808080807f8080807f8080ff", "80808080808080807f8080807f808100"}};
        byte[] key = Rows.octets(16, 1);
        byte[] other = Rows.octets(16, 2);
        byte[] k1 = doubled(Reference.e(key, ZEROS));
        byte[] d = Reference.e(key, k1);
        for (String[] told : cases) {
            byte[] v = Check.octets(told[0]);
            byte[] begin = Rows.octets(16, 3);
            byte[] p = Reference.join(begin,
                    Reference.plus(Reference.plus(Reference.d(key, v), Reference.e(key, begin)), Reference.plus(d, k1)));
            byte[] pad = Reference.e(other, Reference.join(Check.octets(told[1]), Check.octets(told[2])));
            byte[] made = sealedBy(15, Reference.join(key, other), p, new byte[0]);
            check.due("V", Reference.part(made, 0, 16), v);
            check.due("c", Reference.part(made, 16, 32), Reference.plus(p, pad));
        }
    }

    /** J of a START of 16 octets is (START * H + its length) * H, so START can be had of J. */
    private static void fourOctetsAlone() {
        check.says("Terms 2, 12: with 1 added to its last four octets alone (modulo 2^32), beginning with J so added once");
        String[][] cases = {
            {"00112233445566778899aabbffffffff", "00112233445566778899aabb00000000", "00112233445566778899aabb00000001"},
            {"00112233445566778899aabbfffffffe", "00112233445566778899aabbffffffff", "00112233445566778899aabb00000000"},
            {"ffffffffffffffffffffffffffffffff", "ffffffffffffffffffffffff00000000", "ffffffffffffffffffffffff00000001"},
            {"00000000000000000000000000000000", "00000000000000000000000000000001", "00000000000000000000000000000002"},
            {"ffffffffffffffffffffffff7fffffff", "ffffffffffffffffffffffff80000000", "ffffffffffffffffffffffff80000001"}};
        byte[] key = Rows.octets(16, 1);
        BigInteger inverse = inverse(new BigInteger(1, Reference.e(key, ZEROS)));
        for (String[] told : cases) {
            BigInteger j = new BigInteger(told[0], 16);
            BigInteger bits = BigInteger.valueOf(128);
            BigInteger start = Reference.galoisProduct(Reference.galoisProduct(j, inverse).xor(bits), inverse);
            byte[] want = Reference.e(key, Reference.join(Check.octets(told[1]), Check.octets(told[2])));
            Rows rows = new Rows(12).key(key).data(new byte[32]).start(Reference.block(start));
            Subject x = rows.object();
            check.due("seal(12)", x.seal(12), 48);
            check.due("c from J = " + told[0], Reference.part(Check.out(x), 0, 32), want);
            rows.bothWays(check, "J = " + told[0]);
        }
    }

    /** The inverse in the field of GALOIS: the power 2^128 - 2. */
    private static BigInteger inverse(BigInteger h) {
        BigInteger made = BigInteger.ONE.shiftLeft(127);
        BigInteger power = h;
        for (int i = 1; i < 128; i++) {
            power = Reference.galoisProduct(power, power);
            made = Reference.galoisProduct(made, power);
        }
        return made;
    }

    private static void countedNeverOver() {
        check.says("Terms 2, 13: DATA below 2^(8 q) octets, q being 2 .. 8: all that DATA holds is below");
        for (int size = 7; size <= 13; size++) {
            new Rows(13).start(Rows.octets(size, 1)).data(Rows.octets(512, 2)).bothWays(check, "START of " + size);
            new Rows(13).start(Rows.octets(size, 1)).data(Rows.octets(496, 2)).bothWays(check, "START of " + size);
        }
    }

    private static void stepsBeyondAnOctet() {
        check.says("Terms 2, 10 and 11: the number k j + i, also above 255");
        for (int kind = 10; kind <= 11; kind++) {
            for (int k : new int[] {42, 43, 63, 64}) {
                new Rows(kind).data(Rows.octets(8 * k, 1)).bothWays(check, "k = " + k);
            }
        }
    }
}
