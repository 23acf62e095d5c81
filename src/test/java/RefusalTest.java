import java.util.Arrays;

/** Promises 8, 9 and 10: what is refused, in which order, and that a refusal changes nothing. */
public final class RefusalTest {
    private static final int[] NO_KINDS = {0, -1, 17, 18, 256, Integer.MIN_VALUE, Integer.MAX_VALUE};
    private static final int[] DATA_SIZES = {0, 1, 3, 4, 7, 8, 9, 15, 16, 17, 20, 23, 24, 25, 31, 32, 33, 48, 511, 512};
    private static final int[] START_SIZES = {0, 1, 6, 7, 12, 13, 14, 15, 16, 17, 64};
    private static final Check check = new Check();

    public static void main(String[] args) {
        noSuchKind();
        everyKeySize();
        for (int kind = 1; kind <= 16; kind++) {
            everyLength(kind);
        }
        paddings();
        wrapSigns();
        paddedWrapSigns();
        toldAside();
        shortTags();
        emptyData();
        check.end();
    }

    private static SlicedModes object(int key, int data, int start, int aside) {
        SlicedModes x = new SlicedModes();
        x.fill(Check.KEY, key, 11);
        x.fill(Check.DATA, data, 12);
        x.fill(Check.START, start, 13);
        x.fill(Check.ASIDE, aside, 14);
        return x;
    }

    /** An object with something in OUT that a refusal must leave. */
    private static SlicedModes withOut() {
        SlicedModes x = object(16, 16, 16, 0);
        x.seal(1);
        for (int row = 0; row < 4; row++) {
            x.feed(row, 0, 0);
        }
        return x;
    }

    private static byte[] leftOut() {
        return Check.out(withOut());
    }

    private static void noSuchKind() {
        for (int kind : NO_KINDS) {
            for (int key : new int[] {0, 5, 16}) {
                SlicedModes x = withOut();
                x.fill(Check.KEY, key, 1);
                check.due("seal(" + kind + ") with a key of " + key, x.seal(kind), -2);
                check.due("open(" + kind + ") with a key of " + key, x.open(kind), -2);
                check.due("sum(" + kind + ") with a key of " + key, x.sum(kind), -2);
                check.due("sum(4) with a key of " + key, x.sum(4), -2);
                check.due("OUT after no kind", Check.out(x), leftOut());
            }
        }
    }

    private static void everyKeySize() {
        for (int kind = 1; kind <= 16; kind++) {
            for (int key = 0; key <= 64; key++) {
                for (int data : new int[] {7, 32}) {
                    SlicedModes x = object(key, data, 16, 3);
                    answers("", x, kind, new int[] {key, data, 16, 3}, 16);
                }
            }
        }
        for (int kind = 1; kind <= 3; kind++) {
            for (int key = 0; key <= 64; key++) {
                for (int data : new int[] {0, 7, 32}) {
                    SlicedModes x = withOut();
                    x.fill(Check.KEY, key, 1);
                    x.fill(Check.DATA, data, 1);
                    int want = Lengths.sumRefusal(kind, new int[] {key, data, 0, 0});
                    check.due("sum(" + kind + "), key " + key + ", data " + data, x.sum(kind), want < 0 ? want : 16);
                    check.holds("OUT stays only at a refusal",
                            Arrays.equals(Check.out(x), leftOut()) == want < 0);
                }
            }
        }
    }

    private static void answers(String what, SlicedModes x, int kind, int[] sizes, int m) {
        String told = what + "kind " + kind + ", rows of " + Arrays.toString(sizes) + ", m " + m;
        int sealing = Lengths.refusal(kind, false, sizes, m);
        int opening = Lengths.refusal(kind, true, sizes, m);
        int sealed = x.seal(kind);
        check.holds("seal, " + told + " answered " + sealed, sealing < 0 ? sealed == sealing : sealed >= 0);
        int opened = x.open(kind);
        boolean mayBeWrong = opened == -6 && (kind == 3 || kind >= 10);
        check.holds("open, " + told + " answered " + opened,
                opening < 0 ? opened == opening : opened >= 0 || mayBeWrong);
    }

    private static void everyLength(int kind) {
        int key = Lengths.twoKeys(kind) ? 48 : 24;
        for (int data : DATA_SIZES) {
            for (int start : START_SIZES) {
                for (int m : new int[] {4, 5, 8, 15, 16}) {
                    SlicedModes x = withOut();
                    x.fill(Check.KEY, key, 1);
                    x.fill(Check.DATA, data, 2);
                    x.fill(Check.START, start, 3);
                    x.tag(m);
                    int[] sizes = {key, data, start, 0};
                    boolean both = Lengths.refusal(kind, false, sizes, m) < 0
                            && Lengths.refusal(kind, true, sizes, m) < 0;
                    answers("", x, kind, sizes, m);
                    if (both) {
                        check.due("OUT after refusals of " + kind, Check.out(x), leftOut());
                    }
                    x.alter(Check.KEY, 0, 0);
                    x.cut(Check.KEY, key - 1);
                    check.due("seal: -3 before -2", x.seal(kind), -3);
                    check.due("open: -3 before -2", x.open(kind), -3);
                }
            }
        }
    }

    /** Chained blocks with chosen ends, opened as PADDED. */
    private static void paddings() {
        for (int told = 0; told <= 255; told++) {
            for (int broken = 0; broken <= 16; broken++) {
                SlicedModes x = object(16, 32, 16, 0);
                for (int i = 1; i <= Math.min(told, 32); i++) {
                    x.alter(Check.DATA, 32 - i, told);
                }
                x.alter(Check.DATA, 31, told);
                if (broken >= 2) {
                    x.alter(Check.DATA, 32 - broken, told ^ 64);
                }
                x.seal(2);
                byte[] before = Check.out(x);
                x.take(Check.DATA);
                boolean right = told >= 1 && told <= 16 && !(broken >= 2 && broken <= told);
                check.due("open of padding " + told + " broken at " + broken, x.open(3), right ? 32 - told : -6);
                if (!right) {
                    check.due("OUT stays", Check.out(x), before);
                }
            }
        }
    }

    private static void wrapSigns() {
        for (int i = 0; i < 8; i++) {
            byte[] sign = Check.octets("a6a6a6a6a6a6a6a6");
            sign[i] ^= (byte) (1 << i);
            check.due("open(10), A altered at " + i, openedWrap(10, sign, new byte[16]), -6);
        }
        check.due("open(10), A as told", openedWrap(10, Check.octets("a6a6a6a6a6a6a6a6"), new byte[16]), 16);
        check.due("open(10) of PADDED WRAP",
                openedWrap(10, Check.octets("a65959a600000010"), new byte[16]), -6);
    }

    private static void paddedWrapSigns() {
        for (int k = 1; k <= 4; k++) {
            for (long n = 0; n <= 8 * k + 9; n++) {
                boolean right = n > 8 * k - 8 && n <= 8 * k;
                check.due("open(11), " + n + " of " + k, openedPadded(n, new byte[8 * k]), right ? n : -6);
            }
            for (long n : new long[] {0x80000000L, 0xffffffffL, 0x100L + 8 * k, 0x80000000L + 8 * k}) {
                check.due("open(11), " + n + " of " + k, openedPadded(n, new byte[8 * k]), -6);
            }
            for (int i = 0; i < 8 * k; i++) {
                for (long n = 8 * k - 7; n <= 8 * k; n++) {
                    byte[] r = new byte[8 * k];
                    r[i] = (byte) 128;
                    check.due("open(11), " + n + ", not 0 at " + i, openedPadded(n, r), i < n ? n : -6);
                }
            }
            for (int i = 0; i < 32; i++) {
                long sign = (0xa65959a600000000L | 8 * k) ^ 1L << (32 + i);
                check.due("open(11), A altered", openedWrap(11, Reference.number(sign, 8), new byte[8 * k]), -6);
            }
            check.due("open(11) of WRAP", openedWrap(11, Check.octets("a6a6a6a6a6a6a6a6"), new byte[8 * k]), -6);
        }
    }

    private static int openedPadded(long n, byte[] r) {
        return openedWrap(11, Reference.number(0xa65959a600000000L | n, 8), r);
    }

    private static int openedWrap(int kind, byte[] sign, byte[] r) {
        SlicedModes x = object(24, 16, 0, 0);
        byte[] key = Check.row(x, Check.KEY);
        x.seal(1);
        byte[] before = Check.out(x);
        Reference by = new Reference(key, new byte[0], new byte[0], 16, false);
        Check.set(x, Check.DATA, by.wrapped(sign, r));
        int answer = x.open(kind);
        check.holds("OUT after an opened wrap", answer >= 0
                ? Check.out(x).length == answer : Arrays.equals(Check.out(x), before));
        return answer;
    }

    /** START and ASIDE are bound to what was sealed; so is every octet of it. */
    private static void toldAside() {
        for (int kind = 12; kind <= 16; kind++) {
            SlicedModes x = object(kind == 15 ? 32 : 16, 21, 12, 9);
            int sealed = x.seal(kind);
            x.take(Check.DATA);
            byte[] before = Check.out(x);
            for (int row = 1; row < 4; row++) {
                int size = row == Check.DATA ? sealed : row == Check.START ? 12 : 9;
                for (int i = 0; i < size; i++) {
                    int was = x.octet(row, i);
                    x.alter(row, i, was ^ 1 << i % 8);
                    check.due(kind + ": row " + row + " altered at " + i, x.open(kind), -6);
                    x.alter(row, i, was);
                }
            }
            check.due(kind + ": OUT stays", Check.out(x), before);
            check.due(kind + ": nothing altered", x.open(kind), 21);
            x.feed(Check.ASIDE, 0, 1);
            check.due(kind + ": ASIDE longer", x.open(kind), -6);
        }
    }

    private static void shortTags() {
        for (int kind : new int[] {12, 13, 14, 16}) {
            SlicedModes x = object(16, 0, 12, 9);
            x.tag(8);
            check.due(kind + ": a tag alone", x.seal(kind), 8);
            x.take(Check.DATA);
            check.due(kind + ": a tag alone opened", x.open(kind), 0);
            check.due(kind + ": OUT is empty", x.out(0), -2);
            x.tag(10);
            check.due(kind + ": fewer octets than a tag", x.open(kind), -2);
            x.tag(6);
            check.due(kind + ": another tag's size", x.open(kind), -6);
            x.tag(8);
            x.cut(Check.DATA, 7);
            check.due(kind + ": a part of a tag", x.open(kind), -2);
        }
    }

    private static void emptyData() {
        for (int kind : new int[] {1, 2, 5, 6, 7, 8}) {
            SlicedModes x = object(16, 16, 16, 0);
            x.seal(kind);
            x.cut(Check.DATA, 0);
            check.due("seal(" + kind + ") of nothing", x.seal(kind), 0);
            check.due("OUT of nothing", x.out(0), -2);
            check.due("open(" + kind + ") of nothing", x.open(kind), 0);
        }
        SlicedModes x = object(16, 0, 16, 0);
        check.due("seal(3) of nothing", x.seal(3), 16);
        x.take(Check.DATA);
        check.due("open(3) of nothing", x.open(3), 0);
        SlicedModes y = object(32, 0, 0, 0);
        check.due("seal(15) of nothing", y.seal(15), 16);
        y.take(Check.DATA);
        check.due("open(15) of nothing", y.open(15), 0);
        y.cut(Check.DATA, 15);
        check.due("open(15) of 15", y.open(15), -2);
    }
}
