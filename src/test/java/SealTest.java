import java.util.Arrays;
import java.util.Random;

/** Promises 8, 9 and 10: sealing and summing against the reference, opening what was sealed. */
public final class SealTest {
    private static final Check check = new Check();
    private static final Random random = new Random(20261115);

    public static void main(String[] args) {
        for (int kind = 1; kind <= 16; kind++) {
            for (int size = 0; size <= 512; size += size < 100 || size > 490 ? 1 : 13) {
                roundTrip(kind, size);
            }
            everyStart(kind);
            everyTag(kind);
        }
        rightBlocks();
        everySum();
        check.end();
    }

    private static byte[] octets(int size) {
        byte[] made = new byte[size];
        random.nextBytes(made);
        return made;
    }

    private static int oneOf(int... choices) {
        return choices[random.nextInt(choices.length)];
    }

    private static int startSize(int kind) {
        switch (kind) {
            case 12: return oneOf(12, 1 + random.nextInt(64));
            case 13: return 7 + random.nextInt(7);
            case 16: return 1 + random.nextInt(15);
            case 1, 10, 11, 14, 15: return random.nextInt(65);
            default: return 16;
        }
    }

    private static byte[] anyKey(int kind) {
        return octets(oneOf(16, 24, 32) * (Lengths.twoKeys(kind) ? 2 : 1));
    }

    private static void roundTrip(int kind, int size) {
        byte[] aside = octets(oneOf(0, 1, 15, 16, 17, 256, random.nextInt(257)));
        int m = kind == 13 ? 4 + 2 * random.nextInt(7) : 4 + random.nextInt(13);
        whole(kind, new byte[][] {anyKey(kind), octets(size), octets(startSize(kind)), aside}, m);
    }

    private static void everyStart(int kind) {
        for (int size = 0; size <= 64; size++) {
            whole(kind, new byte[][] {anyKey(kind), octets(32), octets(size), octets(size)}, 16);
        }
    }

    private static void everyTag(int kind) {
        for (int m = 4; m <= 16; m++) {
            byte[][] rows = {anyKey(kind), octets(40), octets(startSize(kind)), octets(20)};
            whole(kind, rows, m);
        }
    }

    private static int[] sizes(byte[][] rows) {
        return new int[] {rows[0].length, rows[1].length, rows[2].length, rows[3].length};
    }

    private static Subject object(byte[][] rows, int m) {
        Subject x = new Subject();
        for (int row = 0; row < 4; row++) {
            Check.set(x, row, rows[row]);
        }
        x.tag(m);
        return x;
    }

    /** Seals; then opens what was sealed, and what was sealed with one bit altered. */
    private static void whole(int kind, byte[][] rows, int m) {
        String what = "kind " + kind + ", rows of " + Arrays.toString(sizes(rows)) + ", m " + m;
        Subject x = object(rows, m);
        int refusal = Lengths.refusal(kind, false, sizes(rows), m);
        if (refusal < 0) {
            check.due(what, x.seal(kind), refusal);
            check.due(what + ": OUT", x.out(0), -2);
            return;
        }
        byte[] want = new Reference(rows[0], rows[2], rows[3], m, Lengths.twoKeys(kind)).sealed(kind, rows[1]);
        check.due(what, x.seal(kind), want.length);
        check.due(what, Check.out(x), want);
        if (want.length > 512) {
            check.due(what + ": take", x.take(Check.DATA), -4);
            return;
        }
        Subject y = object(new byte[][] {rows[0], want, rows[2], rows[3]}, m);
        check.due(what + ": open", y.open(kind), rows[1].length);
        check.due(what + ": open", Check.out(y), rows[1]);
        if (want.length > 0) {
            altered(what, kind, y, want.length);
        }
    }

    private static void altered(String what, int kind, Subject y, int size) {
        byte[] before = Check.out(y);
        int i = random.nextInt(size);
        y.alter(Check.DATA, i, y.octet(Check.DATA, i) ^ 1 << random.nextInt(8));
        int got = y.open(kind);
        if (kind >= 10) {
            check.due(what + ": open of altered " + i, got, -6);
            check.due(what + ": OUT stays", Check.out(y), before);
        } else if (kind != 3) {
            check.due(what + ": open of altered " + i, got, before.length);
            check.holds(what + ": OUT is another", !Arrays.equals(Check.out(y), before));
        }
    }

    /** What any DATA opens to seals to that DATA again, where nothing is checked. */
    private static void rightBlocks() {
        for (int kind : new int[] {1, 2, 4, 5, 6, 7, 8, 9}) {
            for (int size = 32; size <= 512; size += 16) {
                byte[][] rows = {anyKey(kind), octets(size), octets(16), octets(0)};
                Subject x = object(rows, 16);
                check.due("open(" + kind + ")", x.open(kind), size);
                x.take(Check.DATA);
                check.due("seal(" + kind + ")", x.seal(kind), size);
                check.due("seal(" + kind + ") of what was opened", Check.out(x), rows[1]);
            }
        }
    }

    private static void everySum() {
        for (int kind = 1; kind <= 3; kind++) {
            for (int size = 0; size <= 512; size += size < 70 || size > 490 ? 1 : 16) {
                byte[][] rows = {octets(oneOf(16, 24, 32)), octets(size), octets(oneOf(0, 16, 9)), octets(3)};
                Subject x = object(rows, 16);
                int refusal = Lengths.sumRefusal(kind, sizes(rows));
                check.due("sum(" + kind + ") of " + size, x.sum(kind), refusal < 0 ? refusal : 16);
                byte[] want = refusal < 0 ? new byte[0]
                        : new Reference(rows[0], rows[2], rows[3], 16, false).summed(kind, rows[1]);
                check.due("sum(" + kind + ") of " + size, Check.out(x), want);
                check.due("DATA after sum(" + kind + ")", Check.row(x, Check.DATA), rows[1]);
            }
        }
    }
}
