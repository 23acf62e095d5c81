import java.util.Arrays;

/** Promise 9 and Terms 2: what answers -6, sentence by sentence, and what just does not. */
public final class RightTest {
    private static final byte[] WRAP_A = Check.octets("a6a6a6a6a6a6a6a6");
    private static final Check check = new Check();

    public static void main(String[] args) {
        paddings();
        paddingAlone();
        paddingPairs();
        wrapA();
        paddedFirstFour();
        paddedNumber();
        paddedZeros();
        tagOctets();
        tagPairs();
        tagOnly();
        boundRows();
        madeV();
        neverWrong();
        check.end();
    }

    /** Opens; whatever the answer is, OUT is as it must be then. */
    private static int opened(Rows rows) {
        Subject x = rows.object();
        Check.set(x, Check.DATA, Rows.octets(32, 90));
        x.sum(1);
        byte[] before = Check.out(x);
        Check.set(x, Check.DATA, rows.data);
        int answer = x.open(rows.kind);
        byte[] after = Check.out(x);
        check.holds("OUT after " + answer, answer < 0 ? Arrays.equals(after, before) : after.length == answer);
        return answer;
    }

    /** Chained blocks with such an end, opened as PADDED. */
    private static int openedEnd(byte[] plain) {
        Rows rows = new Rows(3);
        rows.data = new Rows(2).data(plain).sealed();
        return opened(rows);
    }

    private static void paddings() {
        check.says("Terms 2, 3: -6 if there are not such behind what is opened");
        for (int told = 0; told <= 255; told++) {
            byte[] plain = Rows.octets(48, 1);
            int count = Math.max(1, Math.min(told, 48));
            Arrays.fill(plain, 48 - count, 48, (byte) told);
            check.due("octets " + told + " behind", openedEnd(plain), told >= 1 && told <= 16 ? 48 - told : -6);
        }
        for (int told = 2; told <= 16; told++) {
            for (int broken = 2; broken <= 16; broken++) {
                for (int bit = 0; bit < 8; bit++) {
                    byte[] plain = Rows.octets(48, 1);
                    Arrays.fill(plain, 48 - told, 48, (byte) told);
                    plain[48 - broken] ^= (byte) (1 << bit);
                    check.due(told + " behind, the one " + broken + " from the end broken", openedEnd(plain),
                            broken <= told ? -6 : 48 - told);
                }
            }
        }
    }

    private static void paddingAlone() {
        check.says("Terms 2, 3: of 16 octets, which may all be such");
        byte[] plain = new byte[16];
        Arrays.fill(plain, (byte) 16);
        check.due("16 octets 16", openedEnd(plain), 0);
        for (int told : new int[] {0, 17, 32, 128, 255}) {
            Arrays.fill(plain, (byte) told);
            check.due("16 octets " + told, openedEnd(plain), -6);
        }
        byte[] one = new byte[16];
        one[15] = 1;
        check.due("one octet 1", openedEnd(one), 15);
    }

    /** Two octets that are wrong by the same must not make up for each other. */
    private static void paddingPairs() {
        check.says("Terms 2, 3: -6 if there are not such behind, also with two wrong alike");
        for (int one = 2; one <= 16; one++) {
            for (int other = one + 1; other <= 16; other++) {
                byte[] plain = Rows.octets(32, 1);
                Arrays.fill(plain, 16, 32, (byte) 16);
                plain[32 - one] ^= 4;
                plain[32 - other] ^= 4;
                check.due("wrong at " + one + " and " + other, openedEnd(plain), -6);
            }
        }
    }

    private static int openedWrap(int kind, byte[] a, byte[] r) {
        Rows rows = new Rows(kind);
        rows.data = rows.reference().wrapped(a, r);
        return opened(rows);
    }

    private static void wrapA() {
        check.says("Terms 2, 10: -6 if A is not that");
        for (int size : new int[] {16, 24, 504}) {
            check.due("A as told", openedWrap(10, WRAP_A, Rows.octets(size, 1)), size);
            for (int bit = 0; bit < 64; bit++) {
                byte[] a = WRAP_A.clone();
                a[bit / 8] ^= (byte) (1 << bit % 8);
                check.due("A with bit " + bit + " altered", openedWrap(10, a, Rows.octets(size, 1)), -6);
            }
        }
        byte[] alike = Check.octets("a6a6a6a7a6a6a6a7");
        check.due("both halves of A wrong alike", openedWrap(10, alike, Rows.octets(16, 1)), -6);
        check.due("PADDED WRAP's A", openedWrap(10, Check.octets("a65959a600000010"), Rows.octets(16, 1)), -6);
    }

    private static int openedPadded(long n, byte[] r) {
        return openedWrap(11, Reference.number(0xa65959a600000000L | n, 8), r);
    }

    private static void paddedFirstFour() {
        check.says("Terms 2, 11: -6 if what is opened has not such an A: its first four");
        for (int k = 1; k <= 4; k++) {
            check.due("as told", openedPadded(8 * k, new byte[8 * k]), 8 * k);
            for (int bit = 32; bit < 64; bit++) {
                byte[] a = Reference.number((0xa65959a600000000L | 8 * k) ^ 1L << bit, 8);
                check.due("A with bit " + bit + " altered", openedWrap(11, a, new byte[8 * k]), -6);
            }
            check.due("WRAP's A", openedWrap(11, WRAP_A, new byte[8 * k]), -6);
        }
    }

    private static void paddedNumber() {
        check.says("Terms 2, 11: -6: its number n within 8 (k - 1) - 8 < n <= 8 (k - 1)");
        for (int k = 2; k <= 64; k += k < 6 || k == 63 ? 1 : 57) {
            int most = 8 * (k - 1);
            for (int n = most - 7; n <= most; n++) {
                check.due(n + " with k " + k, openedPadded(n, new byte[most]), n);
            }
            for (long n : new long[] {most - 8, most + 1, 0, most + 8, 256 + most, 65536 + most, 0x1000000L + most,
                0x7fffffffL, 0x80000000L, 0x80000000L + most, 0xffffffffL, 0x100000000L - most}) {
                check.due(n + " with k " + k, openedPadded(n, new byte[most]), -6);
            }
        }
    }

    private static void paddedZeros() {
        check.says("Terms 2, 11: -6: 0s behind n octets");
        for (int k = 2; k <= 5; k++) {
            int most = 8 * (k - 1);
            for (int n = most - 7; n <= most; n++) {
                for (int i = 0; i < most; i++) {
                    byte[] r = new byte[most];
                    r[i] = (byte) (1 << i % 8);
                    check.due(n + " with k " + k + ", not 0 at " + i, openedPadded(n, r), i < n ? n : -6);
                }
                for (int i = n; i < most - 1; i++) {
                    byte[] r = new byte[most];
                    r[i] = 9;
                    r[i + 1] = 9;
                    check.due(n + " with k " + k + ", two alike at " + i, openedPadded(n, r), -6);
                }
            }
        }
    }

    /** Two octets that are wrong by the same must not make up for each other. */
    private static void tagPairs() {
        check.says("Terms 2: -6 if the TAG is not that (of 15: V), also with two octets wrong alike");
        for (int kind = 12; kind <= 16; kind++) {
            Rows rows = new Rows(kind).data(Rows.octets(5, 1));
            byte[] sealed = rows.sealed();
            int at = kind == 15 ? 0 : 5;
            for (int i = 0; i < 16; i++) {
                for (int j = i + 1; j < 16; j++) {
                    byte[] other = sealed.clone();
                    other[at + i] ^= 32;
                    other[at + j] ^= 32;
                    check.due(kind + ": octets " + i + " and " + j, opened(rows.data(other)), -6);
                }
            }
        }
    }

    private static void tagOctets() {
        check.says("Terms 2: TAGS: the first m count: -6 if the TAG is not that");
        for (int kind : new int[] {12, 13, 14, 16}) {
            for (int m = 4; m <= 16; m += kind == 13 ? 2 : 1) {
                Rows rows = new Rows(kind).tag(m).data(Rows.octets(5, 1));
                byte[] sealed = rows.sealed();
                check.due(kind + ", m " + m + ": as sealed", opened(rows.data(sealed)), 5);
                for (int i = 0; i < m; i++) {
                    byte[] other = sealed.clone();
                    other[5 + i] ^= (byte) (1 << (i + m) % 8);
                    check.due(kind + ", m " + m + ": octet " + i + " of the TAG", opened(rows.data(other)), -6);
                }
                for (int i = 0; i < 5; i++) {
                    byte[] other = sealed.clone();
                    other[i] ^= (byte) (128 >> i);
                    check.due(kind + ", m " + m + ": octet " + i + " of c", opened(rows.data(other)), -6);
                }
            }
        }
    }

    private static void tagOnly() {
        check.says("Terms 2: Opening: DATA has m octets at least; -6 if the TAG is not that, of nothing");
        for (int kind : new int[] {12, 13, 14, 16}) {
            Rows rows = new Rows(kind).tag(8).data(new byte[0]);
            byte[] sealed = rows.sealed();
            check.due(kind + ": a TAG alone", opened(rows.data(sealed)), 0);
            sealed[7] ^= 1;
            check.due(kind + ": another TAG alone", opened(rows.data(sealed)), -6);
            sealed[7] ^= 1;
            check.due(kind + ": m is 10", opened(rows.tag(10)), -2);
            check.due(kind + ": m is 6", opened(rows.tag(6)), -6);
            check.due(kind + ": one octet less", opened(rows.tag(8).data(Arrays.copyOf(sealed, 7))), -2);
        }
    }

    /** KEY, START and ASIDE are bound to what was sealed with them: each octet, and how many. */
    private static void boundRows() {
        check.says("Terms 2, 12 to 16: -6 with another KEY, START or ASIDE than it was sealed with");
        for (int kind = 12; kind <= 16; kind++) {
            Rows rows = new Rows(kind).data(Rows.octets(21, 1)).start(Rows.octets(12, 1)).aside(Rows.octets(18, 1));
            rows.data = rows.sealed();
            check.due(kind + ": as sealed", opened(rows), 21);
            for (byte[] row : new byte[][] {rows.key, rows.start, rows.aside}) {
                for (int i = 0; i < row.length; i++) {
                    row[i] ^= (byte) (1 << i % 8);
                    check.due(kind + ": octet " + i + " of " + row.length, opened(rows), -6);
                    row[i] ^= (byte) (1 << i % 8);
                }
            }
            byte[] aside = rows.aside;
            check.due(kind + ": ASIDE longer", opened(rows.aside(Arrays.copyOf(aside, 19))), -6);
            check.due(kind + ": ASIDE shorter", opened(rows.aside(Arrays.copyOf(aside, 17))), -6);
            check.due(kind + ": no ASIDE", opened(rows.aside(new byte[0])), -6);
            rows.aside(aside);
            check.due(kind + ": START longer", opened(rows.start(Arrays.copyOf(rows.start, 13))), -6);
            check.due(kind + ": START shorter", opened(rows.start(Arrays.copyOf(rows.start, 11))), -6);
        }
    }

    private static void madeV() {
        check.says("Terms 2, 15: There is no TAG: V is checked (-6)");
        for (int n : new int[] {0, 1, 15, 16, 17, 40}) {
            Rows rows = new Rows(15).data(Rows.octets(n, 1)).tag(4);
            byte[] sealed = rows.sealed();
            check.due("as sealed", opened(rows.data(sealed)), n);
            for (int i = 0; i < sealed.length; i++) {
                for (int bit = 0; bit < 8; bit++) {
                    byte[] other = sealed.clone();
                    other[i] ^= (byte) (1 << bit);
                    check.due("octet " + i + " altered of " + n, opened(rows.data(other)), -6);
                }
            }
        }
    }

    private static void neverWrong() {
        check.says("Terms 2: KINDS 1, 2 and 4 to 9 tell no -6: whatever DATA is, it is opened");
        for (int kind : new int[] {1, 2, 4, 5, 6, 7, 8, 9}) {
            for (int seed = 0; seed < 20; seed++) {
                Rows rows = new Rows(kind).data(Rows.octets(kind < 3 ? 48 : 33 + seed, seed));
                Subject x = rows.object();
                check.due("open(" + kind + ")", x.open(kind), rows.data.length);
                byte[] plain = Check.out(x);
                new Rows(kind).data(plain).seals(check, "what was opened", rows.data);
            }
        }
    }
}
