import java.util.Arrays;
import java.util.Random;

/** Promises 1 to 13 together: long runs of calls on one object, each answer against a model. */
public final class RunTest {
    private static final int RUNS = 600;
    // A step makes some calls more than one; the rest is for reading all rows at the end.
    private static final int CALLS = Subject.MOST_CALLS - 40;
    private static final int[] ROOMS = {64, 512, 64, 256};
    private static final Check check = new Check();

    private final Random random;
    private final Subject x = new Subject();
    private final byte[][] rows = {new byte[0], new byte[0], new byte[0], new byte[0]};
    private byte[] out = new byte[0];
    private int m = 16;

    private RunTest(int run) {
        random = new Random(run);
    }

    public static void main(String[] args) {
        for (int run = 0; run < RUNS; run++) {
            RunTest test = new RunTest(run);
            while (test.x.calls() < CALLS) {
                test.step("run " + run + ", after " + test.x.calls() + " calls: ");
            }
            check.due("run " + run + ": OUT at the end", Check.out(test.x), test.out);
            for (int row = 0; row < 4; row++) {
                check.due("run " + run + ": row " + row, Check.row(test.x, row), test.rows[row]);
            }
        }
        fullestRows();
        check.end();
    }

    private void step(String what) {
        int choice = random.nextInt(20);
        if (choice < 3) {
            feed(what);
        } else if (choice < 6) {
            fill(what);
        } else if (choice < 8) {
            alter(what);
        } else if (choice == 8) {
            cut(what);
        } else if (choice == 9) {
            tag(what);
        } else if (choice < 13) {
            prepare(what);
        } else if (choice < 15) {
            seal(what, random.nextInt(18));
        } else if (choice == 15) {
            open(what, random.nextInt(18));
        } else if (choice == 16) {
            sum(what);
        } else if (choice == 17) {
            out(what);
        } else if (choice == 18) {
            take(what);
        } else {
            roundKey(what);
        }
    }

    private int anyRow() {
        return random.nextInt(50) == 0 ? random.nextInt() : random.nextInt(4);
    }

    private static boolean isRow(int row) {
        return row >= 0 && row < 4;
    }

    private void feed(String what) {
        int row = anyRow();
        int n = random.nextInt(11) - 1;
        long v = random.nextLong();
        int want = -2;
        if (isRow(row) && n >= 0 && n <= 8) {
            want = n == 0 ? 0 : rows[row].length + n <= ROOMS[row] ? rows[row].length + n : -4;
            if (want >= 0) {
                rows[row] = n == 0 ? new byte[0] : Reference.join(rows[row], Reference.number(v, n));
            }
        }
        check.due(what + "feed", x.feed(row, v, n), want);
    }

    private void fill(String what) {
        int row = anyRow();
        int n = random.nextInt(100) - 2;
        int seed = random.nextInt();
        int want = -2;
        if (isRow(row) && n >= 0) {
            want = rows[row].length + n <= ROOMS[row] ? rows[row].length + n : -4;
            if (want >= 0) {
                rows[row] = Reference.join(rows[row], filled(n, seed));
            }
        }
        check.due(what + "fill", x.fill(row, n, seed), want);
    }

    private static byte[] filled(int n, int seed) {
        byte[] made = new byte[n];
        long z = seed;
        for (int i = 0; i < n; i++) {
            z = z * 1664525 + 1013904223 & 0xffffffffL;
            made[i] = (byte) (z >> 24);
        }
        return made;
    }

    private void alter(String what) {
        int row = anyRow();
        int i = random.nextInt(70) - 2;
        int v = random.nextInt(260) - 2;
        boolean there = isRow(row) && i >= 0 && i < rows[row].length;
        check.due(what + "octet", x.octet(row, i), there ? rows[row][i] & 255 : -2);
        boolean right = there && v >= 0 && v <= 255;
        check.due(what + "alter", x.alter(row, i, v), right ? rows[row][i] & 255 : -2);
        if (right) {
            rows[row][i] = (byte) v;
        }
    }

    private void cut(String what) {
        int row = anyRow();
        int n = random.nextInt(100) - 2;
        boolean right = isRow(row) && n >= 0 && n <= rows[row].length;
        check.due(what + "cut", x.cut(row, n), right ? rows[row].length : -2);
        if (right) {
            rows[row] = Arrays.copyOf(rows[row], n);
        }
    }

    private void tag(String what) {
        int next = random.nextInt(18);
        check.due(what + "tag", x.tag(next), next >= 4 && next <= 16 ? m : -2);
        m = next >= 4 && next <= 16 ? next : m;
    }

    /** Rows that fit a kind, sealing by it, and mostly opening what comes. */
    private void prepare(String what) {
        int kind = 1 + random.nextInt(16);
        int unit = Lengths.twoKeys(kind) ? 16 : 8;
        int start = kind == 13 ? 7 + random.nextInt(7) : kind == 16 ? 1 + random.nextInt(15)
                : kind == 12 || kind == 14 || kind == 15 ? 1 + random.nextInt(64) : 16;
        int data = kind <= 2 || kind == 10 ? 16 * (1 + random.nextInt(6)) : 17 + random.nextInt(80);
        refill(Check.KEY, unit * (2 + random.nextInt(3)));
        refill(Check.START, start);
        refill(Check.DATA, data);
        seal(what, kind);
        if (random.nextInt(4) > 0) {
            take(what, Check.DATA);
            open(what, kind);
        }
    }

    private void refill(int row, int n) {
        int seed = random.nextInt();
        rows[row] = filled(n, seed);
        check.due("feed of none", x.feed(row, 0, 0), 0);
        check.due("fill", x.fill(row, n, seed), n);
    }

    private int[] sizes() {
        return new int[] {rows[0].length, rows[1].length, rows[2].length, rows[3].length};
    }

    private void seal(String what, int kind) {
        int want = Lengths.refusal(kind, false, sizes(), m);
        if (want == 0) {
            Reference by = new Reference(rows[0], rows[2], rows[3], m, Lengths.twoKeys(kind));
            out = by.sealed(kind, rows[1]);
            want = out.length;
        }
        check.due(what + "seal(" + kind + ")", x.seal(kind), want);
        someOut(what + "after seal(" + kind + "), ");
    }

    /** The first octet, the last one, one between, and that there is none behind. */
    private void someOut(String what) {
        if (out.length > 0) {
            outAt(what, 0);
            outAt(what, out.length - 1);
            outAt(what, random.nextInt(out.length));
        }
        outAt(what, out.length);
    }

    private void outAt(String what, int i) {
        check.due(what + "out(" + i + ")", x.out(i), i >= 0 && i < out.length ? out[i] & 255 : -2);
    }

    /** A new object opens beside the one of the run: what was called before must not matter. */
    private void open(String what, int kind) {
        Subject fresh = new Subject();
        for (int row = 0; row < 4; row++) {
            Check.set(fresh, row, rows[row]);
        }
        fresh.tag(m);
        int want = fresh.open(kind);
        int refusal = Lengths.refusal(kind, true, sizes(), m);
        check.holds(what + "refusal of open(" + kind + ")", refusal < 0 ? want == refusal : want >= 0 || want == -6);
        out = want >= 0 ? Check.out(fresh) : out;
        check.due(what + "open(" + kind + ")", x.open(kind), want);
        someOut(what + "after open(" + kind + "), ");
    }

    private void sum(String what) {
        int kind = random.nextInt(5);
        int want = Lengths.sumRefusal(kind, sizes());
        if (want == 0) {
            out = new Reference(rows[0], rows[2], rows[3], m, false).summed(kind, rows[1]);
            want = 16;
        }
        check.due(what + "sum(" + kind + ")", x.sum(kind), want);
        someOut(what + "after sum(" + kind + "), ");
    }

    private void out(String what) {
        outAt(what, random.nextInt(60) - 2);
    }

    private void take(String what) {
        take(what, anyRow());
    }

    private void take(String what, int row) {
        int want = !isRow(row) ? -2 : out.length > ROOMS[row] ? -4 : out.length;
        check.due(what + "take(" + row + ")", x.take(row), want);
        if (want >= 0) {
            rows[row] = out.clone();
        }
    }

    private void roundKey(String what) {
        int i = random.nextInt(250) - 3;
        int n = rows[0].length;
        boolean right = n == 16 || n == 24 || n == 32;
        int want = !right ? -3 : i < 0 || i >= 4 * n + 112 ? -2 : RoundKeyTest.roundKeys(rows[0])[i];
        check.due(what + "roundKey(" + i + ")", x.roundKey(i), want);
    }

    /** Every kind and sum with rows as full as it allows. */
    private static void fullestRows() {
        for (int kind = 1; kind <= 16; kind++) {
            RunTest test = new RunTest(kind);
            test.refill(Check.KEY, Lengths.twoKeys(kind) ? 64 : 32);
            test.refill(Check.DATA, 512);
            test.refill(Check.ASIDE, 256);
            test.refill(Check.START, kind == 13 ? 13 : kind == 16 ? 15 : kind >= 2 && kind <= 9 ? 16 : 64);
            test.seal("full, ", kind);
            test.open("full, ", kind);
            for (int i = 0; i < 10; i++) {
                test.sum("full, ");
            }
        }
    }
}
