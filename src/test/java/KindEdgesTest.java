import java.util.Arrays;

/** Terms 2, KIND by KIND: the last block that is a part, what is empty, and the other edges told. */
public final class KindEdgesTest {
    private static final byte[] NONE = new byte[0];
    private static final byte[] ZEROS = new byte[16];
    private static final Check check = new Check();

    public static void main(String[] args) {
        halves();
        book();
        chain();
        paddedBehind();
        stolen();
        feed();
        feedOfOne();
        out();
        count();
        sector();
        wrap();
        paddedWrap();
        galoisStart();
        galoisEmpty();
        galoisLengths();
        counted();
        countedAside();
        countedLengths();
        twiceEmpty();
        madeAside();
        madeEnd();
        offsetsStart();
        offsetsBits();
        offsetsParts();
        tags();
        check.end();
    }

    private static byte[] plus(byte[] a, byte[] b) {
        return Reference.plus(a, b);
    }

    private static byte[] join(byte[]... parts) {
        return Reference.join(parts);
    }

    private static byte[] part(byte[] row, int from, int size) {
        return Reference.part(row, from, size);
    }

    /** Sealing nothing and opening nothing gives nothing, whatever was in OUT. */
    private static void empty(int kind) {
        Subject x = new Rows(kind).object();
        check.due("seal(" + kind + ") of 32", x.seal(kind), 32);
        x.cut(Check.DATA, 0);
        check.due("seal(" + kind + ") of nothing", x.seal(kind), 0);
        check.due("OUT of nothing", x.out(0), -2);
        Subject y = new Rows(kind).object();
        y.seal(kind);
        y.cut(Check.DATA, 0);
        check.due("open(" + kind + ") of nothing", y.open(kind), 0);
        check.due("OUT of nothing opened", y.out(0), -2);
    }

    /** Every size of a last part, behind no block, one, two, and as many as there can be. */
    private static void parts(int kind, int least) {
        for (int n = least; n <= 512; n += n == 48 ? 512 - 16 - 48 : 1) {
            new Rows(kind).data(Rows.octets(n, 1)).bothWays(check, "DATA of " + n);
        }
    }

    private static void halves() {
        check.says("Terms 1: With two keys told, the KEY's first half is the first key, the other half the second");
        for (int size : new int[] {16, 24, 32}) {
            byte[] first = Rows.octets(size, 1);
            byte[] second = Rows.octets(size, 2);
            byte[] t = Reference.e(second, ZEROS);
            byte[] want = plus(Reference.e(first, t), t);
            new Rows(9).key(join(first, second)).start(ZEROS).data(ZEROS).seals(check, "two keys of " + size, want);
            byte[] k1 = Reference.doubled(Reference.e(first, ZEROS));
            byte[] v = Reference.e(first, plus(k1, Reference.e(first, k1)));
            byte[] from = v.clone();
            from[8] &= 127;
            from[12] &= 127;
            new Rows(15).key(join(first, second)).start(NONE).aside(NONE).data(ZEROS)
                    .seals(check, "two keys of " + size, join(v, Reference.e(second, from)));
        }
    }

    private static void book() {
        check.says("Terms 2, 1: E of each block. Opening D. (k is 0 or more)");
        empty(1);
        Rows rows = new Rows(1).data(Rows.octets(512, 1));
        rows.seals(check, "32 blocks", Reference.e(rows.key, rows.data));
        Subject x = rows.object();
        check.due("open(1)", x.open(1), 512);
        check.due("open(1)", Check.out(x), Reference.d(rows.key, rows.data));
    }

    private static void chain() {
        check.says("Terms 2, 2: c(i) = E(p(i) + c(i - 1)), c(-1) being START (k is 0 or more)");
        empty(2);
        Rows rows = new Rows(2).data(Rows.octets(512, 1));
        byte[] want = NONE;
        byte[] before = rows.start;
        for (int at = 0; at < 512; at += 16) {
            before = Reference.e(rows.key, plus(part(rows.data, at, 16), before));
            want = join(want, before);
        }
        rows.seals(check, "32 blocks", want);
        rows.bothWays(check, "32 blocks");
        new Rows(2).data(ZEROS).start(ZEROS).seals(check, "all 0", Reference.e(new Rows(2).key, ZEROS));
    }

    private static void paddedBehind() {
        check.says("Terms 2, 3: p with 1 to 16 octets behind it, to a multiple of 16, each being how many");
        for (int n = 0; n <= 512; n += n == 34 ? 462 : 1) {
            Rows rows = new Rows(3).data(Rows.octets(n, 1));
            int behind = 16 - n % 16;
            byte[] padding = new byte[behind];
            Arrays.fill(padding, (byte) behind);
            byte[] want = new Reference(rows.key, rows.start, NONE, 16, false).sealed(2, join(rows.data, padding));
            rows.seals(check, "DATA of " + n, want);
            rows.bothWays(check, "DATA of " + n);
        }
    }

    private static void stolen() {
        check.says("Terms 2, 4: 0s behind it to a multiple of 16; the last two blocks change places, as many octets are kept");
        for (int n = 17; n <= 512; n += n == 65 ? 430 : 1) {
            Rows rows = new Rows(4).data(Rows.octets(n, 1));
            int whole = (n + 15) / 16 * 16;
            byte[] c = new Reference(rows.key, rows.start, NONE, 16, false).sealed(2, Arrays.copyOf(rows.data, whole));
            byte[] swapped = join(part(c, 0, whole - 32), part(c, whole - 16, 16), part(c, whole - 32, 16));
            rows.seals(check, "DATA of " + n, Arrays.copyOf(swapped, n));
            rows.bothWays(check, "DATA of " + n);
        }
        check.due("16 octets", new Rows(4).data(Rows.octets(16, 1)).object().seal(4), -2);
        check.due("16 octets opened", new Rows(4).data(Rows.octets(16, 1)).object().open(4), -2);
    }

    private static void feed() {
        check.says("Terms 2, 5: each block (the last one perhaps a part) is p + E of the c before (START first)");
        empty(5);
        parts(5, 1);
        Rows rows = new Rows(5).data(Rows.octets(17, 1));
        byte[] c = plus(part(rows.data, 0, 16), Reference.e(rows.key, rows.start));
        rows.seals(check, "a block and one octet", join(c, plus(part(rows.data, 16, 1), Reference.e(rows.key, c))));
    }

    private static void feedOfOne() {
        check.says("Terms 2, 6: each octet is p + the first octet of E(register); the register goes left, c comes in");
        empty(6);
        parts(6, 1);
        Rows rows = new Rows(6).data(Rows.octets(40, 1));
        byte[] register = rows.start;
        byte[] want = NONE;
        for (byte p : rows.data) {
            byte[] c = {(byte) (p ^ Reference.e(rows.key, register)[0])};
            register = join(part(register, 1, 15), c);
            want = join(want, c);
        }
        rows.seals(check, "more octets than the register has", want);
    }

    private static void out() {
        check.says("Terms 2, 7: blocks as FEED, but E of what E was before (START first)");
        empty(7);
        parts(7, 1);
        Rows rows = new Rows(7).data(new byte[33]);
        byte[] one = Reference.e(rows.key, rows.start);
        byte[] two = Reference.e(rows.key, one);
        byte[] three = Reference.e(rows.key, two);
        rows.seals(check, "two blocks and one octet", join(one, two, part(three, 0, 1)));
    }

    private static void count() {
        check.says("Terms 2, 8: blocks as FEED, but E of START, ONE MORE, ..");
        empty(8);
        parts(8, 1);
        Rows rows = new Rows(8).data(new byte[33]).start(Check.octets("000102030405060708090a0b0c0d0eff"));
        byte[] one = Reference.e(rows.key, rows.start);
        byte[] two = Reference.e(rows.key, Check.octets("000102030405060708090a0b0c0d0f00"));
        byte[] three = Reference.e(rows.key, Check.octets("000102030405060708090a0b0c0d0f01"));
        rows.seals(check, "two blocks and one octet", join(one, two, part(three, 0, 1)));
    }

    private static void sector() {
        check.says("Terms 2, 9: If the last one is a part of m octets: x's last 16 - m octets behind it, x's first m the last");
        parts(9, 16);
        check.due("15 octets", new Rows(9).data(Rows.octets(15, 1)).object().seal(9), -2);
        check.due("15 octets opened", new Rows(9).data(Rows.octets(15, 1)).object().open(9), -2);
        Rows rows = new Rows(9).data(Rows.octets(17, 1));
        byte[] first = part(rows.key, 0, 16);
        byte[] t = Reference.e(part(rows.key, 16, 16), rows.start);
        byte[] x = plus(Reference.e(first, plus(part(rows.data, 0, 16), t)), t);
        byte[] next = Reference.reversed(Reference.doubled(Reference.reversed(t)));
        byte[] last = join(part(rows.data, 16, 1), part(x, 1, 15));
        byte[] want = join(plus(Reference.e(first, plus(last, next)), next), part(x, 0, 1));
        rows.seals(check, "a block and one octet", want);
    }

    private static void wrap() {
        check.says("Terms 2, 10: 8 k octets, k 2 or more; A, R(1) .. is what comes");
        for (int n = 16; n <= 512; n += 8) {
            new Rows(10).data(Rows.octets(n, 1)).bothWays(check, "DATA of " + n);
        }
        check.due("k = 1", new Rows(10).data(Rows.octets(8, 1)).object().seal(10), -2);
        check.due("k = 0", new Rows(10).data(NONE).object().seal(10), -2);
        check.due("k = 2 opened", new Rows(10).data(Rows.octets(16, 1)).object().open(10), -2);
        check.due("k = 64", new Rows(10).data(Rows.octets(512, 1)).object().seal(10), 520);
    }

    private static void paddedWrap() {
        check.says("Terms 2, 11: 0s behind DATA to a multiple of 8; of 8 octets (A, DATA) is one block of E; else as WRAP");
        for (int n = 1; n <= 512; n += n == 33 ? 470 : 1) {
            new Rows(11).data(Rows.octets(n, 1)).bothWays(check, "DATA of " + n);
        }
        for (int n = 1; n <= 8; n++) {
            Rows rows = new Rows(11).data(Rows.octets(n, 1));
            byte[] a = join(Check.octets("a65959a6000000"), new byte[] {(byte) n});
            rows.seals(check, "one block of " + n, Reference.e(rows.key, join(a, Arrays.copyOf(rows.data, 8))));
        }
        Rows nine = new Rows(11).data(Rows.octets(9, 1));
        byte[] a = Check.octets("a65959a600000009");
        nine.seals(check, "no block of 9", nine.reference().wrapped(a, Arrays.copyOf(nine.data, 16)));
        check.due("nothing", new Rows(11).data(NONE).object().seal(11), -2);
        check.due("the most", new Rows(11).data(Rows.octets(505, 1)).object().seal(11), 520);
    }

    private static void galoisStart() {
        check.says("Terms 2, 12: J: of a START of 12 octets it, 0, 0, 0, 1; else the SUM of START with 0s and its length in bits");
        Rows twelve = new Rows(12).data(new byte[16]);
        byte[] first = Reference.e(twelve.key, join(twelve.start, Check.octets("00000002")));
        Subject x = twelve.object();
        x.seal(12);
        check.due("c from J", part(Check.out(x), 0, 16), first);
        for (int n : new int[] {1, 11, 13, 15, 16, 17, 32, 63, 64}) {
            Rows rows = new Rows(12).data(new byte[16]).start(Rows.octets(n, 1));
            byte[] j = rows.reference().summed(3, join(Reference.padded(rows.start, 16), Reference.number(8 * n, 16)));
            int last = (j[15] & 255) + 1;
            check.holds("no carry in this test", last < 256);
            j[15] = (byte) last;
            Subject y = rows.object();
            check.due("START of " + n, y.seal(12), 32);
            check.due("START of " + n, part(Check.out(y), 0, 16), Reference.e(rows.key, j));
            rows.bothWays(check, "START of " + n);
        }
    }

    private static void galoisEmpty() {
        check.says("Terms 2, 12: DATA and ASIDE of nothing, and parts: each with 0s to a multiple of 16");
        Rows rows = new Rows(12).data(NONE).aside(NONE);
        byte[] j = Reference.e(rows.key, join(rows.start, Check.octets("00000001")));
        rows.seals(check, "nothing at all", j);
        parts(12, 0);
        for (int n : new int[] {0, 1, 15, 16, 17}) {
            new Rows(12).data(NONE).aside(Rows.octets(n, 1)).bothWays(check, "ASIDE of " + n + " alone");
            new Rows(12).data(Rows.octets(n, 1)).aside(NONE).bothWays(check, "DATA of " + n + " alone");
        }
    }

    private static void galoisLengths() {
        check.says("Terms 2, 12: a block of their lengths in bits (8 octets each)");
        for (int n : new int[] {31, 32, 255, 256}) {
            Rows rows = new Rows(12).data(new byte[n]).aside(Rows.octets(n, 1));
            Subject x = rows.object();
            x.seal(12);
            byte[] made = Check.out(x);
            byte[] lengths = join(Reference.number(8 * n, 8), Reference.number(8 * n, 8));
            byte[] all = join(Reference.padded(rows.aside, 16), Reference.padded(part(made, 0, n), 16), lengths);
            byte[] j = Reference.e(rows.key, join(rows.start, Check.octets("00000001")));
            check.due("lengths of " + n, part(made, n, 16), plus(j, rows.reference().summed(3, all)));
        }
    }

    private static void counted() {
        check.says("Terms 2, 13: START 7 .. 13 (15 - q), q being 2 .. 8: q octets of DATA's length, i in q octets");
        parts(13, 0);
        for (int size = 7; size <= 13; size++) {
            int q = 15 - size;
            for (int n : new int[] {0, 1, 16, 17}) {
                Rows rows = new Rows(13).start(Rows.octets(size, 1)).data(Rows.octets(n, 1)).aside(NONE).tag(4);
                byte[] first = join(Reference.number(8 + q - 1, 1), rows.start, Reference.number(n, q));
                byte[] t = rows.reference().summed(2, join(first, Reference.padded(rows.data, 16)));
                byte[] head = join(Reference.number(q - 1, 1), rows.start);
                byte[] pads = NONE;
                for (int i = 0; i <= 2; i++) {
                    pads = join(pads, Reference.e(rows.key, join(head, Reference.number(i, q))));
                }
                byte[] c = plus(rows.data, part(pads, 16, 32));
                rows.seals(check, "START of " + size + ", DATA of " + n, join(c, plus(part(t, 0, 4), pads)));
            }
        }
    }

    private static void countedAside() {
        check.says("Terms 2, 13: 64 (if there is ASIDE); two octets of its length and it, 0s behind to a multiple of 16");
        for (int n : new int[] {0, 1, 13, 14, 15, 16, 29, 30, 31, 255, 256}) {
            Rows rows = new Rows(13).data(NONE).aside(Rows.octets(n, 1));
            byte[] first = join(Reference.number((n > 0 ? 64 : 0) + 56 + 2, 1), rows.start, new byte[3]);
            byte[] told = n > 0 ? Reference.padded(join(Reference.number(n, 2), rows.aside), 16) : NONE;
            byte[] t = rows.reference().summed(2, join(first, told));
            byte[] s = Reference.e(rows.key, join(new byte[] {2}, rows.start, new byte[3]));
            rows.seals(check, "ASIDE of " + n, plus(t, s));
            rows.bothWays(check, "ASIDE of " + n);
        }
    }

    private static void countedLengths() {
        check.says("Terms 2, 13: q octets of DATA's length, also above 255");
        for (int n : new int[] {255, 256, 257, 511, 512}) {
            for (int size = 7; size <= 13; size++) {
                new Rows(13).start(Rows.octets(size, 1)).data(Rows.octets(n, 1)).bothWays(check, "DATA of " + n);
            }
        }
    }

    private static void twiceEmpty() {
        check.says("Terms 2, 14: START, ASIDE of any length, also of none");
        parts(14, 0);
        for (int start : new int[] {0, 1, 15, 16, 17, 64}) {
            for (int aside : new int[] {0, 1, 15, 16, 17, 256}) {
                for (int data : new int[] {0, 1, 16}) {
                    new Rows(14).start(Rows.octets(start, 1)).aside(Rows.octets(aside, 2)).data(Rows.octets(data, 3))
                            .bothWays(check, "START, ASIDE, DATA of " + start + ", " + aside + ", " + data);
                }
            }
        }
        Rows rows = new Rows(14).start(NONE).aside(NONE).data(NONE);
        Reference by = rows.reference();
        byte[] sums = plus(by.summed(1, Reference.number(0, 16)),
                plus(by.summed(1, Reference.number(1, 16)), by.summed(1, Reference.number(2, 16))));
        rows.seals(check, "nothing at all", sums);
    }

    private static void madeAside() {
        check.says("Terms 2, 15: if there is ASIDE: d = DOUBLED d + MAC of it; if there is START: likewise with it");
        for (int start : new int[] {0, 1, 16, 64}) {
            for (int aside : new int[] {0, 1, 16, 256}) {
                new Rows(15).start(Rows.octets(start, 1)).aside(Rows.octets(aside, 2))
                        .bothWays(check, "START, ASIDE of " + start + ", " + aside);
            }
        }
        byte[] told = Rows.octets(20, 1);
        byte[] want = new Rows(15).start(NONE).aside(told).sealed();
        new Rows(15).start(told).aside(NONE).seals(check, "START alone is as ASIDE alone", want);
        check.holds("neither is not as one of them",
                !Arrays.equals(want, new Rows(15).start(NONE).aside(NONE).sealed()));
    }

    private static void madeEnd() {
        check.says("Terms 2, 15: if p has 16 octets or more: d added to its last 16 octets, else DOUBLED d + (p, 128, 0s)");
        parts(15, 0);
        byte[] first = part(new Rows(15).key, 0, 16);
        byte[] k1 = Reference.doubled(Reference.e(first, ZEROS));
        byte[] d = Reference.e(first, k1);
        for (int n : new int[] {0, 1, 15, 16}) {
            Rows rows = new Rows(15).start(NONE).aside(NONE).data(Rows.octets(n, 1));
            byte[] block = n < 16 ? plus(Reference.doubled(d), Reference.marked(rows.data)) : plus(d, rows.data);
            Subject x = rows.object();
            check.due("DATA of " + n, x.seal(15), 16 + n);
            check.due("V of " + n, part(Check.out(x), 0, 16), Reference.e(first, plus(k1, block)));
        }
        Rows more = new Rows(15).start(NONE).aside(NONE).data(Rows.octets(17, 1));
        byte[] all = join(part(more.data, 0, 1), plus(part(more.data, 1, 16), d));
        Subject x = more.object();
        x.seal(15);
        byte[] want = new Reference(first, NONE, NONE, 16, false).summed(1, all);
        check.due("V of 17", part(Check.out(x), 0, 16), want);
    }

    private static void offsetsStart() {
        check.says("Terms 2, 16: (8 m modulo 128) * 2 in the first one, START at the end, 1 added to the octet before it");
        for (int size = 1; size <= 15; size++) {
            for (int m = 4; m <= 16; m++) {
                Rows rows = new Rows(16).start(Rows.octets(size, m)).tag(m);
                rows.bothWays(check, "START of " + size + ", m of " + m);
                byte[] n = join(new byte[16 - size], rows.start);
                n[0] = (byte) (m == 16 ? 0 : 16 * m);
                n[15 - size] |= 1;
                check.due("START of " + size + ", m of " + m, offsetsFirst(rows), wantedFirst(rows.key, n));
            }
        }
    }

    /** c of a first block 0. */
    private static byte[] offsetsFirst(Rows rows) {
        byte[] kept = rows.data;
        Subject x = rows.data(ZEROS).object();
        rows.data(kept);
        x.seal(16);
        return part(Check.out(x), 0, 16);
    }

    /** O + E(O) of the first block, O being taken bit by bit. */
    private static byte[] wantedFirst(byte[] key, byte[] n) {
        int b = n[15] & 63;
        byte[] even = n.clone();
        even[15] &= (byte) 192;
        byte[] k = Reference.e(key, even);
        byte[] all = join(k, plus(part(k, 0, 8), part(k, 1, 8)));
        byte[] o = new byte[16];
        for (int i = 0; i < 128; i++) {
            int bit = all[(i + b) / 8] >> (7 - (i + b) % 8) & 1;
            o[i / 8] |= (byte) (bit << (7 - i % 8));
        }
        o = plus(o, Reference.doubled(Reference.doubled(Reference.e(key, ZEROS))));
        return plus(o, Reference.e(key, o));
    }

    private static void offsetsBits() {
        check.says("Terms 2, 16: b: the last six bits of N, which are 0 then: O are the 16 octets from bit b on");
        for (int last = 0; last < 256; last++) {
            byte[] start = Rows.octets(12, 1);
            start[11] = (byte) last;
            Rows rows = new Rows(16).start(start);
            byte[] n = join(Check.octets("00000001"), start);
            check.due("START ends in " + last, offsetsFirst(rows), wantedFirst(rows.key, n));
        }
        for (int last = 0; last < 256; last++) {
            Rows rows = new Rows(16).start(new byte[] {(byte) last});
            byte[] n = Reference.number(256 + last, 16);
            check.due("START is " + last, offsetsFirst(rows), wantedFirst(rows.key, n));
        }
    }

    private static void offsetsParts() {
        check.says("Terms 2, 16: A part: O = O + L*; of ASIDE a part (ASIDE, 128, 0s) with O + L*; nothing of either");
        parts(16, 0);
        for (int data : new int[] {0, 1, 15, 16, 17}) {
            for (int aside : new int[] {0, 1, 15, 16, 17, 255, 256}) {
                new Rows(16).data(Rows.octets(data, 1)).aside(Rows.octets(aside, 2))
                        .bothWays(check, "DATA, ASIDE of " + data + ", " + aside);
            }
        }
    }

    private static void tags() {
        check.says("Terms 2: TAGS are 16 octets, of which the first m count; they stand behind c");
        for (int kind : new int[] {12, 14}) {
            byte[] longest = new Rows(kind).sealed();
            for (int m = 4; m <= 16; m++) {
                new Rows(kind).tag(m).seals(check, "m of " + m, part(longest, 0, 32 + m));
            }
        }
        for (int kind : new int[] {12, 13, 14, 16}) {
            for (int n : new int[] {0, 1, 16, 512}) {
                for (int m : new int[] {4, 16}) {
                    Rows rows = new Rows(kind).tag(m).data(Rows.octets(n, 1));
                    check.due(kind + ": how many", rows.object().seal(kind), n + m);
                    rows.bothWays(check, "DATA of " + n + ", m of " + m);
                }
            }
        }
    }
}
