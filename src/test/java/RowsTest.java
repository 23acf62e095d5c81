/** Promises 1 to 7, 11 and 12: a new object, and the rows with what is fed, altered and taken. */
public final class RowsTest {
    private static final int[] ROOMS = {64, 512, 64, 256};
    private static final int[] NO_ROWS = {-1, 4, 5, 256, Integer.MIN_VALUE, Integer.MAX_VALUE};
    private static final Check check = new Check();

    public static void main(String[] args) {
        newObject();
        feed();
        feedWrong();
        fill();
        fillWrong();
        alterAndOctet();
        cut();
        tag();
        out();
        take();
        check.end();
    }

    private static void newObject() {
        SlicedModes x = new SlicedModes();
        for (int row = 0; row < 4; row++) {
            check.due("new: octet(" + row + ", 0)", x.octet(row, 0), -2);
            check.due("new: cut(" + row + ", 0)", x.cut(row, 0), 0);
            check.due("new: cut(" + row + ", 1)", x.cut(row, 1), -2);
            check.due("new: take(" + row + ")", x.take(row), 0);
        }
        check.due("new: out(0)", x.out(0), -2);
        check.due("new: roundKey(0)", x.roundKey(0), -3);
        check.due("new: tag(16)", x.tag(16), 16);
        SlicedModes y = new SlicedModes();
        x.feed(0, 7, 1);
        check.due("another object's row", y.octet(0, 0), -2);
    }

    private static void feed() {
        for (int row = 0; row < 4; row++) {
            SlicedModes x = new SlicedModes();
            int size = 0;
            for (int n = 1; n <= 8; n++) {
                long v = 0x8192a3b4c5d6e7f8L;
                size += n;
                check.due("feed of " + n, x.feed(row, v, n), size);
                for (int i = 0; i < n; i++) {
                    long want = v >>> (8 * (n - 1 - i)) & 255;
                    check.due("octet " + i + " of feed " + n, x.octet(row, size - n + i), want);
                }
                check.due("behind feed " + n, x.octet(row, size), -2);
            }
            check.due("feed(row, -1, 2)", x.feed(row, -1, 2), size + 2);
            check.due("octet of -1", x.octet(row, size + 1), 255);
            check.due("feed of 0", x.feed(row, 99, 0), 0);
            check.due("octet after feed of 0", x.octet(row, 0), -2);
            check.due("feed after feed of 0", x.feed(row, 5, 1), 1);
        }
    }

    private static void feedWrong() {
        for (int row : NO_ROWS) {
            SlicedModes x = new SlicedModes();
            check.due("feed(" + row + ")", x.feed(row, 1, 1), -2);
            check.due("feed(" + row + ", 0)", x.feed(row, 1, 0), -2);
        }
        for (int row = 0; row < 4; row++) {
            SlicedModes x = new SlicedModes();
            for (int n : new int[] {-1, 9, Integer.MIN_VALUE, Integer.MAX_VALUE}) {
                check.due("feed of " + n, x.feed(row, 1, n), -2);
            }
            for (int i = 1; i <= ROOMS[row] / 8; i++) {
                check.due("feed up to the room", x.feed(row, i, 8), 8L * i);
            }
            check.due("feed beyond the room", x.feed(row, 1, 1), -4);
            check.due("wrong feed of a full row", x.feed(row, 1, 9), -2);
            x.cut(row, ROOMS[row] - 3);
            check.due("feed of one too many", x.feed(row, 1, 4), -4);
            check.due("a refused feed leaves the row", x.octet(row, ROOMS[row] - 3), -2);
            check.due("feed of what is left", x.feed(row, 1, 3), ROOMS[row]);
            check.due("feed of 0 in a full row", x.feed(row, 1, 0), 0);
        }
    }

    private static void fill() {
        for (int seed : new int[] {0, 1, -1, 123456789, Integer.MIN_VALUE}) {
            for (int row = 0; row < 4; row++) {
                SlicedModes x = new SlicedModes();
                check.due("feed", x.feed(row, 0x0102, 2), 2);
                check.due("fill", x.fill(row, 40, seed), 42);
                check.due("first before fill", x.octet(row, 0), 1);
                long z = seed & 0xffffffffL;
                for (int i = 0; i < 40; i++) {
                    z = (z * 1664525 + 1013904223) % 4294967296L;
                    check.due("fill's octet " + i, x.octet(row, 2 + i), z / 16777216);
                }
                check.due("fill of none", x.fill(row, 0, seed), 42);
                check.due("behind fill", x.octet(row, 42), -2);
            }
        }
        SlicedModes x = new SlicedModes();
        x.fill(1, 2, 0);
        check.due("fill of seed 0, first", x.octet(1, 0), 60);
        check.due("fill of seed 0, second", x.octet(1, 1), 71);
    }

    private static void fillWrong() {
        for (int row : NO_ROWS) {
            check.due("fill(" + row + ")", new SlicedModes().fill(row, 0, 1), -2);
        }
        for (int row = 0; row < 4; row++) {
            SlicedModes x = new SlicedModes();
            check.due("fill of -1", x.fill(row, -1, 1), -2);
            check.due("fill of the least", x.fill(row, Integer.MIN_VALUE, 1), -2);
            check.due("fill of the most", x.fill(row, Integer.MAX_VALUE, 1), -4);
            check.due("fill of one too many", x.fill(row, ROOMS[row] + 1, 1), -4);
            check.due("a refused fill leaves the row", x.octet(row, 0), -2);
            check.due("fill of all", x.fill(row, ROOMS[row], 1), ROOMS[row]);
            check.due("fill of none in a full row", x.fill(row, 0, 1), ROOMS[row]);
            check.due("fill beyond", x.fill(row, 1, 1), -4);
            check.due("fill of the most beyond", x.fill(row, Integer.MAX_VALUE, 1), -4);
        }
    }

    private static void alterAndOctet() {
        for (int row = 0; row < 4; row++) {
            SlicedModes x = new SlicedModes();
            x.feed(row, 0x0a0b0c, 3);
            check.due("alter", x.alter(row, 1, 255), 11);
            check.due("alter again", x.alter(row, 1, 0), 255);
            check.due("octet", x.octet(row, 1), 0);
            check.due("octet before", x.octet(row, 0), 10);
            check.due("octet behind", x.octet(row, 2), 12);
            for (int i : new int[] {-1, 3, 64, 512, Integer.MIN_VALUE, Integer.MAX_VALUE}) {
                check.due("alter at " + i, x.alter(row, i, 1), -2);
                check.due("octet at " + i, x.octet(row, i), -2);
            }
            for (int v : new int[] {-1, 256, Integer.MIN_VALUE, Integer.MAX_VALUE}) {
                check.due("alter to " + v, x.alter(row, 0, v), -2);
            }
            check.due("octet after wrong alters", x.octet(row, 0), 10);
            x.feed(row, 0, 0);
            x.fill(row, ROOMS[row], 3);
            check.holds("octet at the end", x.octet(row, ROOMS[row] - 1) >= 0);
            check.due("octet at the room", x.octet(row, ROOMS[row]), -2);
            check.due("alter at the room", x.alter(row, ROOMS[row], 1), -2);
        }
        for (int row : NO_ROWS) {
            check.due("alter(" + row + ")", new SlicedModes().alter(row, 0, 1), -2);
            check.due("octet(" + row + ")", new SlicedModes().octet(row, 0), -2);
        }
    }

    private static void cut() {
        for (int row = 0; row < 4; row++) {
            SlicedModes x = new SlicedModes();
            x.feed(row, 0x0102030405L, 5);
            check.due("cut to 6", x.cut(row, 6), -2);
            check.due("cut to -1", x.cut(row, -1), -2);
            check.due("cut to the least", x.cut(row, Integer.MIN_VALUE), -2);
            check.due("cut to the most", x.cut(row, Integer.MAX_VALUE), -2);
            check.due("cut to all", x.cut(row, 5), 5);
            check.due("cut to 2", x.cut(row, 2), 5);
            check.due("kept", x.octet(row, 1), 2);
            check.due("not kept", x.octet(row, 2), -2);
            check.due("cut to 3 of 2", x.cut(row, 3), -2);
            check.due("feed behind a cut", x.feed(row, 9, 1), 3);
            check.due("fed behind a cut", x.octet(row, 2), 9);
            check.due("cut to 0", x.cut(row, 0), 3);
            check.due("cut of none", x.cut(row, 0), 0);
        }
        for (int row : NO_ROWS) {
            check.due("cut(" + row + ")", new SlicedModes().cut(row, 0), -2);
        }
    }

    private static void tag() {
        SlicedModes x = new SlicedModes();
        int had = 16;
        for (int m = 4; m <= 16; m++) {
            check.due("tag(" + m + ")", x.tag(m), had);
            had = m;
        }
        for (int m : new int[] {-4, 0, 3, 17, Integer.MIN_VALUE, Integer.MAX_VALUE}) {
            check.due("tag(" + m + ")", x.tag(m), -2);
        }
        check.due("tag after wrong ones", x.tag(7), 16);
        x.fill(0, 16, 1);
        x.fill(2, 12, 1);
        x.fill(1, 20, 1);
        check.due("seal with a tag of 7", x.seal(12), 27);
    }

    private static void out() {
        SlicedModes x = new SlicedModes();
        x.fill(0, 16, 1);
        x.fill(1, 32, 1);
        check.due("seal", x.seal(1), 32);
        check.holds("out(31)", x.out(31) >= 0 && x.out(31) <= 255);
        for (int i : new int[] {-1, 32, Integer.MIN_VALUE, Integer.MAX_VALUE}) {
            check.due("out(" + i + ")", x.out(i), -2);
        }
        x.cut(1, 16);
        check.due("seal of less", x.seal(1), 16);
        check.due("out(16)", x.out(16), -2);
        x.cut(1, 0);
        check.due("seal of none", x.seal(1), 0);
        check.due("out(0)", x.out(0), -2);
    }

    private static void take() {
        for (int row : NO_ROWS) {
            check.due("take(" + row + ")", new SlicedModes().take(row), -2);
        }
        for (int row = 0; row < 4; row++) {
            SlicedModes x = new SlicedModes();
            x.fill(0, 16, 1);
            x.fill(2, 16, 2);
            x.fill(1, ROOMS[row] - 16, 3);
            x.fill(3, 5, 4);
            int size = x.seal(3);
            check.due("seal", size, ROOMS[row]);
            byte[] made = Check.out(x);
            check.due("take(" + row + ")", x.take(row), size);
            check.due("the row taken", Check.row(x, row), made);
            check.due("OUT after take", Check.out(x), made);
            x.alter(row, 0, made[0] & 255 ^ 1);
            check.due("OUT after alter of what was taken", Check.out(x), made);
        }
        takeTooMany();
        takeLess();
    }

    private static void takeTooMany() {
        for (int row = 0; row < 4; row++) {
            SlicedModes x = new SlicedModes();
            x.fill(0, 16, 1);
            x.fill(2, 16, 2);
            x.fill(3, 9, 3);
            x.fill(1, ROOMS[row], 4);
            byte[] before = Check.row(x, row);
            check.due("seal", x.seal(3), ROOMS[row] + 16);
            check.due("take of too many", x.take(row), -4);
            check.due("the row after it", Check.row(x, row), before);
            check.due("take of too many, no row", x.take(4), -2);
        }
    }

    private static void takeLess() {
        SlicedModes x = new SlicedModes();
        x.fill(0, 16, 1);
        x.fill(1, 16, 1);
        x.fill(3, 100, 5);
        x.seal(1);
        check.due("take into a longer row", x.take(3), 16);
        check.due("the row is no longer", x.octet(3, 16), -2);
        x.cut(1, 0);
        x.seal(1);
        check.due("take of an empty OUT", x.take(3), 0);
        check.due("the row is empty", x.octet(3, 0), -2);
    }
}
