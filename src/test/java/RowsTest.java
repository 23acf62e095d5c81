/** Promises 1 to 7, 11 and 12, sentence by sentence: rows, tags, OUT and what is taken of it. */
public final class RowsTest {
    private static final int[] ROOMS = {64, 512, 64, 256};
    private static final int[] NO_ROWS = {-1, 4, 5, 256, Integer.MIN_VALUE, Integer.MAX_VALUE};
    private static final Check check = new Check();

    public static void main(String[] args) {
        rowsAtMost();
        newObject();
        feed();
        feedOfNone();
        feedNoRow();
        feedOutside();
        feedTooMany();
        fill();
        fillNoRow();
        fillBelow();
        fillTooMany();
        alter();
        alterNone();
        alterOutside();
        octet();
        octetNone();
        cut();
        cutNoRow();
        cutOutside();
        tag();
        tagOutside();
        out();
        outNone();
        take();
        takeNoRow();
        takeTooMany();
        check.end();
    }

    private static void holdsAsItWas(String what, Subject x, int row, byte[] before) {
        check.due("row " + row + " after " + what, Check.row(x, row), before);
    }

    private static void rowsAtMost() {
        check.says("Terms 1: the KEY (64 at most), DATA (512), the START (64), ASIDE (256)");
        for (int row = 0; row < 4; row++) {
            Subject x = new Subject();
            check.due("fill to the last octet", x.fill(row, ROOMS[row], row), ROOMS[row]);
            check.due("feed of one more", x.feed(row, 1, 1), -4);
            check.due("fill of one more", x.fill(row, 1, 1), -4);
            check.holds("the last octet is there", x.octet(row, ROOMS[row] - 1) >= 0);
            check.due("and none behind it", x.octet(row, ROOMS[row]), -2);
            check.due("how many there are", x.cut(row, ROOMS[row]), ROOMS[row]);
            check.due("cut by one", x.cut(row, ROOMS[row] - 1), ROOMS[row]);
            check.due("feed of the last one", x.feed(row, 77, 1), ROOMS[row]);
            check.due("the last octet", x.octet(row, ROOMS[row] - 1), 77);
        }
    }

    private static void newObject() {
        check.says("Promise 1: Empty rows, TAGS of 16 octets");
        Subject x = new Subject();
        for (int row = 0; row < 4; row++) {
            check.due("octet(" + row + ", 0)", x.octet(row, 0), -2);
            check.due("cut(" + row + ", 1)", x.cut(row, 1), -2);
            check.due("cut(" + row + ", 0)", x.cut(row, 0), 0);
            check.due("take(" + row + ") of an empty OUT", x.take(row), 0);
        }
        check.due("out(0)", x.out(0), -2);
        check.due("roundKey(0)", x.roundKey(0), -3);
        check.due("tag(16)", x.tag(16), 16);
        Subject sealing = new Subject();
        sealing.fill(Check.KEY, 16, 1);
        sealing.fill(Check.START, 12, 1);
        check.due("a tag alone", sealing.seal(12), 16);
        check.due("another object's tag", new Subject().tag(5), 16);
        check.due("another object's row", new Subject().octet(Check.KEY, 0), -2);
    }

    private static void feed() {
        check.says("Promise 2: The n lowest octets of v, the highest first, come behind a row: how many it has");
        for (int row = 0; row < 4; row++) {
            Subject x = new Subject();
            int size = 0;
            for (int n = 1; n <= 8; n++) {
                long v = 0x8192a3b4c5d6e7f8L;
                size += n;
                check.due("feed of " + n, x.feed(row, v, n), size);
                for (int i = 0; i < n; i++) {
                    long want = v >>> (8 * (n - 1 - i)) & 255;
                    check.due("octet " + i + " of feed " + n, x.octet(row, size - n + i), want);
                }
                check.due("behind feed " + n, x.octet(row, size), -2);
            }
            check.due("feed of -1", x.feed(row, -1, 8), size + 8);
            check.due("the first of -1", x.octet(row, size), 255);
            check.due("the last of -1", x.octet(row, size + 7), 255);
            check.due("feed of the least", x.feed(row, Long.MIN_VALUE, 8), size + 16);
            check.due("the first of the least", x.octet(row, size + 8), 128);
            check.due("the last of the least", x.octet(row, size + 15), 0);
        }
    }

    private static void feedOfNone() {
        check.says("Promise 2: with n = 0 it is empty: 0");
        for (int row = 0; row < 4; row++) {
            for (int size : new int[] {0, 1, ROOMS[row]}) {
                Subject x = new Subject();
                x.fill(row, size, 1);
                x.fill((row + 1) % 4, 3, 1);
                check.due("feed of 0 to " + size, x.feed(row, 99, 0), 0);
                check.due("octet after it", x.octet(row, 0), -2);
                check.due("another row", x.cut((row + 1) % 4, 3), 3);
                check.due("feed after it", x.feed(row, 5, 1), 1);
                check.due("octet of that", x.octet(row, 0), 5);
            }
        }
    }

    private static void feedNoRow() {
        check.says("Promise 2: -2 no such row");
        for (int row : NO_ROWS) {
            for (int n = 0; n <= 9; n++) {
                check.due("feed(" + row + ", 1, " + n + ")", new Subject().feed(row, 1, n), -2);
            }
        }
    }

    private static void feedOutside() {
        check.says("Promise 2: -2 n is not 0 .. 8");
        for (int row = 0; row < 4; row++) {
            for (int size : new int[] {0, 3, ROOMS[row]}) {
                Subject x = new Subject();
                x.fill(row, size, 1);
                byte[] before = Check.row(x, row);
                for (int n : new int[] {-1, 9, 10, 16, 256, -8, Integer.MIN_VALUE, Integer.MAX_VALUE}) {
                    check.due("feed of " + n + " to " + size, x.feed(row, 1, n), -2);
                }
                holdsAsItWas("a refused feed", x, row, before);
            }
        }
    }

    private static void feedTooMany() {
        check.says("Promise 2: -4 it would have too many");
        for (int row = 0; row < 4; row++) {
            for (int left = 0; left <= 8; left++) {
                for (int n = 1; n <= 8; n++) {
                    Subject x = new Subject();
                    int size = ROOMS[row] - left;
                    x.fill(row, size, 1);
                    byte[] before = Check.row(x, row);
                    check.due("feed of " + n + " with " + left + " left", x.feed(row, 1, n), n > left ? -4 : size + n);
                    if (n > left) {
                        holdsAsItWas("a refused feed", x, row, before);
                    }
                }
            }
        }
    }

    private static void fill() {
        check.says("Promise 3: N octets, each the next of z * 1664525 + 1013904223 (32 bits), its highest eight bits");
        for (int seed : new int[] {0, 1, -1, 123456789, Integer.MIN_VALUE, Integer.MAX_VALUE}) {
            for (int row = 0; row < 4; row++) {
                Subject x = new Subject();
                x.feed(row, 0x0102, 2);
                check.due("fill", x.fill(row, 40, seed), 42);
                check.due("what stood before", x.octet(row, 0), 1);
                long z = seed & 0xffffffffL;
                for (int i = 0; i < 40; i++) {
                    z = (z * 1664525 + 1013904223) % 4294967296L;
                    check.due("octet " + i + " of seed " + seed, x.octet(row, 2 + i), z / 16777216);
                }
                check.due("fill of none", x.fill(row, 0, seed), 42);
                check.due("behind it", x.octet(row, 42), -2);
            }
        }
        Subject x = new Subject();
        check.due("fill of none in an empty row", x.fill(Check.DATA, 0, 5), 0);
        x.fill(Check.DATA, 2, 0);
        check.due("seed 0, first", x.octet(Check.DATA, 0), 60);
        check.due("seed 0, second", x.octet(Check.DATA, 1), 71);
    }

    private static void fillNoRow() {
        check.says("Promise 3: -2 no such row");
        for (int row : NO_ROWS) {
            for (int n : new int[] {0, 1, 600, -1}) {
                check.due("fill(" + row + ", " + n + ")", new Subject().fill(row, n, 1), -2);
            }
        }
    }

    private static void fillBelow() {
        check.says("Promise 3: -2 n below 0");
        for (int row = 0; row < 4; row++) {
            for (int size : new int[] {0, 3, ROOMS[row]}) {
                Subject x = new Subject();
                x.fill(row, size, 1);
                byte[] before = Check.row(x, row);
                for (int n : new int[] {-1, -2, -512, Integer.MIN_VALUE}) {
                    check.due("fill of " + n + " to " + size, x.fill(row, n, 1), -2);
                }
                holdsAsItWas("a refused fill", x, row, before);
            }
        }
    }

    private static void fillTooMany() {
        check.says("Promise 3: -4");
        for (int row = 0; row < 4; row++) {
            for (int size : new int[] {0, 1, ROOMS[row] - 1, ROOMS[row]}) {
                Subject x = new Subject();
                x.fill(row, size, 1);
                byte[] before = Check.row(x, row);
                int left = ROOMS[row] - size;
                for (int n : new int[] {left + 1, left + 2, 513, 1 << 20, Integer.MAX_VALUE - size, Integer.MAX_VALUE}) {
                    check.due("fill of " + n + " to " + size, x.fill(row, n, 1), -4);
                }
                holdsAsItWas("a refused fill", x, row, before);
                check.due("fill of all that is left", x.fill(row, left, 1), ROOMS[row]);
                check.due("fill of none in a full row", x.fill(row, 0, 1), ROOMS[row]);
            }
        }
    }

    private static void alter() {
        check.says("Promise 4: Octet i of a row becomes v: what it was");
        for (int row = 0; row < 4; row++) {
            Subject x = new Subject();
            x.fill(row, ROOMS[row], 1);
            byte[] want = Check.row(x, row);
            int v = 0;
            for (int i : new int[] {0, 1, ROOMS[row] - 1}) {
                for (int next : new int[] {0, 255, 128, 7 + v}) {
                    check.due("alter at " + i, x.alter(row, i, next), want[i] & 255);
                    want[i] = (byte) next;
                }
                v++;
            }
            check.due("the row", Check.row(x, row), want);
        }
    }

    private static void alterNone() {
        check.says("Promise 4: -2 there is none");
        for (int row = 0; row < 4; row++) {
            for (int size : new int[] {0, 3, ROOMS[row]}) {
                Subject x = new Subject();
                x.fill(row, size, 1);
                byte[] before = Check.row(x, row);
                for (int i : new int[] {-1, size, size + 1, 512, Integer.MIN_VALUE, Integer.MAX_VALUE}) {
                    check.due("alter at " + i + " of " + size, x.alter(row, i, 1), -2);
                }
                holdsAsItWas("a refused alter", x, row, before);
            }
            Subject x = new Subject();
            x.fill(row, 9, 1);
            x.cut(row, 4);
            check.due("alter of what was cut off", x.alter(row, 4, 1), -2);
        }
        for (int row : NO_ROWS) {
            Subject x = new Subject();
            x.fill(Check.KEY, 1, 1);
            check.due("alter in row " + row, x.alter(row, 0, 1), -2);
        }
    }

    private static void alterOutside() {
        check.says("Promise 4: -2 v is not 0 .. 255");
        for (int row = 0; row < 4; row++) {
            Subject x = new Subject();
            x.feed(row, 0x0a0b, 2);
            for (int v : new int[] {-1, 256, 257, -255, 65536, Integer.MIN_VALUE, Integer.MAX_VALUE}) {
                check.due("alter to " + v, x.alter(row, 1, v), -2);
                check.due("octet after it", x.octet(row, 1), 11);
            }
            check.due("alter to 255", x.alter(row, 1, 255), 11);
            check.due("alter to 0", x.alter(row, 1, 0), 255);
            check.due("octet", x.octet(row, 1), 0);
        }
    }

    private static void octet() {
        check.says("Promise 5: Octet i of a row");
        for (int row = 0; row < 4; row++) {
            Subject x = new Subject();
            for (int i = 0; i < ROOMS[row]; i += 4) {
                x.feed(row, 0xff000000L + 0x01000001L * i, 4);
            }
            for (int i = 0; i < ROOMS[row]; i++) {
                long v = 0xff000000L + 0x01000001L * (i / 4 * 4);
                check.due("octet " + i, x.octet(row, i), v >>> (24 - 8 * (i % 4)) & 255);
            }
        }
    }

    private static void octetNone() {
        check.says("Promise 5: -2 there is none");
        for (int row = 0; row < 4; row++) {
            for (int size : new int[] {0, 3, ROOMS[row]}) {
                Subject x = new Subject();
                x.fill(row, size, 1);
                for (int i : new int[] {-1, size, size + 1, 1000, Integer.MIN_VALUE, Integer.MAX_VALUE}) {
                    check.due("octet " + i + " of " + size, x.octet(row, i), -2);
                }
            }
            Subject x = new Subject();
            x.fill(row, 9, 1);
            x.cut(row, 4);
            check.due("octet of what was cut off", x.octet(row, 4), -2);
        }
        for (int row : NO_ROWS) {
            Subject x = new Subject();
            x.fill(Check.KEY, 1, 1);
            check.due("octet in row " + row, x.octet(row, 0), -2);
        }
    }

    private static void cut() {
        check.says("Promise 6: A row keeps its first n octets: how many it had");
        for (int row = 0; row < 4; row++) {
            Subject x = new Subject();
            x.feed(row, 0x0102030405L, 5);
            check.due("cut to all", x.cut(row, 5), 5);
            check.due("the row", Check.row(x, row), Check.octets("0102030405"));
            check.due("cut to 2", x.cut(row, 2), 5);
            check.due("the row", Check.row(x, row), Check.octets("0102"));
            check.due("feed behind it", x.feed(row, 9, 1), 3);
            check.due("the row", Check.row(x, row), Check.octets("010209"));
            check.due("cut to 0", x.cut(row, 0), 3);
            check.due("the row", Check.row(x, row), new byte[0]);
            check.due("cut of none", x.cut(row, 0), 0);
        }
    }

    private static void cutNoRow() {
        check.says("Promise 6: -2 no such row");
        for (int row : NO_ROWS) {
            for (int n : new int[] {-1, 0, 1}) {
                check.due("cut(" + row + ", " + n + ")", new Subject().cut(row, n), -2);
            }
        }
    }

    private static void cutOutside() {
        check.says("Promise 6: -2 n is not 0 .. that");
        for (int row = 0; row < 4; row++) {
            for (int size : new int[] {0, 3, ROOMS[row]}) {
                Subject x = new Subject();
                x.fill(row, size, 1);
                byte[] before = Check.row(x, row);
                for (int n : new int[] {-1, size + 1, size + 2, Integer.MIN_VALUE, Integer.MAX_VALUE}) {
                    check.due("cut of " + size + " to " + n, x.cut(row, n), -2);
                }
                holdsAsItWas("a refused cut", x, row, before);
            }
            Subject x = new Subject();
            x.fill(row, 9, 1);
            x.cut(row, 4);
            check.due("cut back to more", x.cut(row, 5), -2);
        }
    }

    private static void tag() {
        check.says("Promise 7: TAGS have m octets: how many they had");
        Subject x = new Subject();
        int had = 16;
        for (int m : new int[] {4, 5, 6, 7, 8, 9, 10, 11, 12, 13, 14, 15, 16, 4, 16}) {
            check.due("tag(" + m + ")", x.tag(m), had);
            had = m;
        }
        x.fill(Check.KEY, 16, 1);
        x.fill(Check.START, 12, 1);
        x.fill(Check.DATA, 20, 1);
        for (int m = 4; m <= 16; m++) {
            x.tag(m);
            check.due("sealing with a tag of " + m, x.seal(12), 20 + m);
        }
    }

    private static void tagOutside() {
        check.says("Promise 7: -2 m is not 4 .. 16");
        Subject x = new Subject();
        x.tag(9);
        for (int m : new int[] {3, 17, 0, 1, -4, -16, 260, Integer.MIN_VALUE, Integer.MAX_VALUE}) {
            check.due("tag(" + m + ")", x.tag(m), -2);
            check.due("the tag after it", x.tag(9), 9);
        }
    }

    private static void out() {
        check.says("Promise 11: Octet i of OUT");
        Subject x = new Subject();
        for (int i = 0; i < 4; i++) {
            x.feed(Check.KEY, 0x0001020304050607L + 0x0808080808080808L * i, 8);
        }
        x.cut(Check.KEY, 16);
        x.feed(Check.DATA, 0x0011223344556677L, 8);
        x.feed(Check.DATA, 0x8899aabbccddeeffL, 8);
        check.due("seal(1)", x.seal(1), 16);
        byte[] want = Check.octets("69c4e0d86a7b0430d8cdb78070b4c55a");
        for (int i = 0; i < 16; i++) {
            check.due("out(" + i + ")", x.out(i), want[i] & 255);
        }
    }

    private static void outNone() {
        check.says("Promise 11: -2 there is none");
        for (int size : new int[] {0, 16, 512}) {
            Subject x = new Subject();
            x.fill(Check.KEY, 16, 1);
            x.fill(Check.DATA, 512, 1);
            x.seal(1);
            x.cut(Check.DATA, size);
            check.due("seal", x.seal(1), size);
            check.holds("the last one is there", size == 0 || x.out(size - 1) >= 0);
            for (int i : new int[] {-1, size, size + 1, 528, Integer.MIN_VALUE, Integer.MAX_VALUE}) {
                check.due("out(" + i + ") of " + size, x.out(i), -2);
            }
        }
        Subject x = new Subject();
        x.fill(Check.KEY, 16, 1);
        x.fill(Check.START, 16, 1);
        x.fill(Check.DATA, 512, 1);
        check.due("the most that can come", x.seal(3), 528);
        check.holds("out(527)", x.out(527) >= 0);
        check.due("out(528)", x.out(528), -2);
    }

    /** Sealing by PADDED to a size that is a multiple of 16, or by BOOK to nothing. */
    private static Subject withOut(int size) {
        Subject x = new Subject();
        x.fill(Check.KEY, 16, 1);
        x.fill(Check.START, 16, 2);
        x.fill(Check.ASIDE, 9, 3);
        x.fill(Check.DATA, Math.max(size - 16, 0), 4);
        check.due("seal", x.seal(size == 0 ? 1 : 3), size);
        return x;
    }

    private static void take() {
        check.says("Promise 12: OUT becomes a row (0 .. 3): how many octets");
        for (int row = 0; row < 4; row++) {
            for (int size : new int[] {0, 16, ROOMS[row]}) {
                Subject x = withOut(size);
                byte[] made = Check.out(x);
                byte[] other = Check.row(x, (row + 1) % 4);
                check.due("take(" + row + ")", x.take(row), size);
                check.due("the row", Check.row(x, row), made);
                check.due("OUT", Check.out(x), made);
                check.due("another row", Check.row(x, (row + 1) % 4), other);
                if (size > 0) {
                    x.alter(row, 0, made[0] & 255 ^ 1);
                    check.due("OUT when the row is altered", Check.out(x), made);
                    check.due("take again", x.take(row), size);
                    check.due("the row again", Check.row(x, row), made);
                }
            }
        }
    }

    private static void takeNoRow() {
        check.says("Promise 12: -2 no such row");
        for (int row : NO_ROWS) {
            check.due("take(" + row + ") of nothing", new Subject().take(row), -2);
            check.due("take(" + row + ") of 528", withOut(528).take(row), -2);
        }
    }

    private static void takeTooMany() {
        check.says("Promise 12: -4 it has too many");
        for (int row = 0; row < 4; row++) {
            Subject x = withOut(ROOMS[row] + 16);
            byte[] before = Check.row(x, row);
            byte[] made = Check.out(x);
            check.due("take(" + row + ")", x.take(row), -4);
            holdsAsItWas("a refused take", x, row, before);
            check.due("OUT after it", Check.out(x), made);
        }
        for (int row = 0; row < 4; row++) {
            Subject x = new Subject();
            x.fill(Check.KEY, 16, 1);
            x.fill(Check.START, 12, 1);
            x.fill(Check.DATA, ROOMS[row] - 4, 1);
            x.tag(4);
            check.due("seal to as many as there is room for", x.seal(12), ROOMS[row]);
            check.due("take of them", x.take(row), ROOMS[row]);
            x.feed(Check.KEY, 0, 0);
            x.fill(Check.KEY, 16, 1);
            x.feed(Check.START, 0, 0);
            x.fill(Check.START, 12, 1);
            x.feed(Check.DATA, 0, 0);
            x.fill(Check.DATA, ROOMS[row] - 4, 1);
            x.tag(5);
            check.due("seal to one more", x.seal(12), ROOMS[row] + 1);
            check.due("take of one too many", x.take(row), -4);
        }
    }
}
