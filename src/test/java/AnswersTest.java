import java.util.Arrays;
import java.util.function.ToIntFunction;

/** The last paragraph of Terms 3 for every call, and the 512 calls of an object. */
public final class AnswersTest {
    private static final int[] NO_KINDS = {0, 17, -1, 18, 256, 257, Integer.MIN_VALUE, Integer.MAX_VALUE};
    private static final Check check = new Check();

    public static void main(String[] args) {
        dataStays();
        dataStaysRefused();
        outIsNotData();
        outStaysSealing();
        outStaysSumming();
        outStaysElsewhere();
        noSuchKind();
        noKindFirst();
        keyBeforeLengths();
        keyBeforeRight();
        lengthsBeforeRight();
        rangeBeforeRoom();
        lastCall();
        dearestCalls();
        check.end();
    }

    private static void stays(String what, Subject x, Rows rows) {
        check.due("KEY after " + what, Check.row(x, Check.KEY), rows.key);
        check.due("DATA after " + what, Check.row(x, Check.DATA), rows.data);
        check.due("START after " + what, Check.row(x, Check.START), rows.start);
        check.due("ASIDE after " + what, Check.row(x, Check.ASIDE), rows.aside);
        check.due("m after " + what, x.tag(rows.m), rows.m);
    }

    private static void dataStays() {
        check.says("Terms 3: DATA stays as it is, also when OUT is made");
        for (int kind = 1; kind <= 16; kind++) {
            Rows rows = new Rows(kind).tag(8);
            Subject x = rows.object();
            check.holds("seal(" + kind + ")", x.seal(kind) >= 0);
            stays("seal(" + kind + ")", x, rows);
            rows.data = rows.sealed();
            Subject y = rows.object();
            check.holds("open(" + kind + ")", y.open(kind) >= 0);
            stays("open(" + kind + ")", y, rows);
        }
        for (int kind = 1; kind <= 3; kind++) {
            Rows rows = new Rows(1);
            Subject x = rows.object();
            check.due("sum(" + kind + ")", x.sum(kind), 16);
            stays("sum(" + kind + ")", x, rows);
        }
    }

    private static void dataStaysRefused() {
        check.says("Terms 3: DATA stays as it is, when it is refused");
        for (int kind = 1; kind <= 16; kind++) {
            Rows rows = new Rows(kind).data(Rows.octets(48, 5)).tag(8);
            Subject x = rows.object();
            int answer = x.open(kind);
            check.holds("open(" + kind + ") answered " + answer, answer == -6 || kind < 3 || kind > 3 && kind < 10);
            stays("open(" + kind + ")", x, rows);
            rows.key = Rows.octets(17, 1);
            Subject y = rows.object();
            check.due("seal(" + kind + ")", y.seal(kind), -3);
            check.due("open(" + kind + ")", y.open(kind), -3);
            stays("-3", y, rows);
        }
    }

    private static void outIsNotData() {
        check.says("Terms 3: DATA stays as it is: OUT is another row");
        for (int kind = 1; kind <= 16; kind++) {
            Subject x = new Rows(kind).object();
            x.seal(kind);
            byte[] made = Check.out(x);
            x.alter(Check.DATA, 0, x.octet(Check.DATA, 0) ^ 255);
            x.cut(Check.DATA, 1);
            check.due("OUT of seal(" + kind + ") when DATA is altered", Check.out(x), made);
            x.feed(Check.KEY, 0, 0);
            x.feed(Check.START, 0, 0);
            x.feed(Check.ASIDE, 0, 0);
            check.due("OUT of seal(" + kind + ") when the rows are emptied", Check.out(x), made);
        }
    }

    /** An object with something in OUT, and then these rows. */
    private static Subject withOut(Rows rows) {
        Subject x = new Rows(1).object();
        x.seal(1);
        Check.set(x, Check.KEY, rows.key);
        Check.set(x, Check.DATA, rows.data);
        Check.set(x, Check.START, rows.start);
        Check.set(x, Check.ASIDE, rows.aside);
        x.tag(rows.m);
        return x;
    }

    private static void refusedAndStays(Rows rows, ToIntFunction<Subject> call, String what, int want) {
        Subject x = withOut(rows);
        byte[] before = Check.out(x);
        check.due(what, call.applyAsInt(x), want);
        check.due("OUT after " + what, Check.out(x), before);
        check.due("OUT's size after " + what, before.length, 32);
        stays(what, x, rows);
    }

    private static void bothRefused(Rows rows, String what, int want) {
        refusedAndStays(rows, x -> x.seal(rows.kind), what + ": seal(" + rows.kind + ")", want);
        refusedAndStays(rows, x -> x.open(rows.kind), what + ": open(" + rows.kind + ")", want);
    }

    private static void outStaysSealing() {
        check.says("Terms 3: ANSWERS below 0 are refusals; OUT stays as it was then (seal, open)");
        for (int kind = 1; kind <= 16; kind++) {
            bothRefused(new Rows(kind).key(Rows.octets(15, 1)), "the KEY", -3);
            if (kind == 1 || kind == 2 || kind == 10) {
                bothRefused(new Rows(kind).data(Rows.octets(33, 1)), "DATA", -2);
            } else if (kind == 4 || kind == 9) {
                bothRefused(new Rows(kind).data(Rows.octets(15, 1)), "DATA", -2);
            } else if (kind == 11) {
                bothRefused(new Rows(kind).data(new byte[0]), "DATA", -2);
            } else if (kind == 3 || kind >= 12) {
                Rows rows = new Rows(kind).data(Rows.octets(15, 1));
                refusedAndStays(rows, x -> x.open(rows.kind), "DATA: open(" + kind + ")", -2);
            }
            if (kind >= 2 && kind <= 9 || kind == 13 || kind == 16) {
                bothRefused(new Rows(kind).start(Rows.octets(17, 1)), "START", -2);
            } else if (kind == 12) {
                bothRefused(new Rows(kind).start(new byte[0]), "START", -2);
            }
            if (kind == 13) {
                bothRefused(new Rows(kind).tag(7), "m", -2);
            }
            if (kind == 3 || kind >= 10) {
                Rows rows = new Rows(kind).data(Rows.octets(48, 5));
                refusedAndStays(rows, x -> x.open(rows.kind), "open(" + kind + ")", -6);
            }
        }
        for (int kind : NO_KINDS) {
            refusedAndStays(new Rows(1), x -> x.seal(kind), "seal(" + kind + ")", -2);
            refusedAndStays(new Rows(1), x -> x.open(kind), "open(" + kind + ")", -2);
        }
    }

    private static void outStaysSumming() {
        check.says("Terms 3: ANSWERS below 0 are refusals; OUT stays as it was then (sum)");
        for (int kind = 1; kind <= 3; kind++) {
            int told = kind;
            refusedAndStays(new Rows(1).key(Rows.octets(64, 1)), x -> x.sum(told), "sum(" + kind + ")", -3);
            if (kind > 1) {
                refusedAndStays(new Rows(1).data(new byte[0]), x -> x.sum(told), "sum(" + kind + ")", -2);
                refusedAndStays(new Rows(1).data(new byte[17]), x -> x.sum(told), "sum(" + kind + ")", -2);
            }
        }
        refusedAndStays(new Rows(1), x -> x.sum(0), "sum(0)", -2);
        refusedAndStays(new Rows(1), x -> x.sum(4), "sum(4)", -2);
    }

    private static void outStaysElsewhere() {
        check.says("Terms 3: ANSWERS below 0 are refusals; OUT stays as it was then (all other calls)");
        Rows full = new Rows(1).data(Rows.octets(512, 1)).key(Rows.octets(64, 1));
        refusedAndStays(full, x -> x.feed(4, 1, 1), "feed(4, ..)", -2);
        refusedAndStays(full, x -> x.feed(1, 1, 9), "feed of 9", -2);
        refusedAndStays(full, x -> x.feed(1, 1, 1), "feed", -4);
        refusedAndStays(full, x -> x.fill(-1, 1, 1), "fill(-1, ..)", -2);
        refusedAndStays(full, x -> x.fill(1, -1, 1), "fill of -1", -2);
        refusedAndStays(full, x -> x.fill(1, 1, 1), "fill", -4);
        refusedAndStays(full, x -> x.alter(1, 512, 1), "alter at 512", -2);
        refusedAndStays(full, x -> x.alter(1, 0, 256), "alter to 256", -2);
        refusedAndStays(full, x -> x.octet(1, 512), "octet", -2);
        refusedAndStays(full, x -> x.cut(1, 513), "cut", -2);
        refusedAndStays(full, x -> x.tag(3), "tag", -2);
        refusedAndStays(full, x -> x.out(32), "out", -2);
        refusedAndStays(full, x -> x.take(4), "take", -2);
        refusedAndStays(full, x -> x.roundKey(0), "roundKey", -3);
        refusedAndStays(new Rows(1), x -> x.roundKey(176), "roundKey", -2);
        Subject x = new Rows(3).data(Rows.octets(512, 1)).object();
        check.due("seal(3)", x.seal(3), 528);
        byte[] before = Check.out(x);
        for (int row = 0; row < 4; row++) {
            check.due("take(" + row + ")", x.take(row), -4);
        }
        check.due("OUT after take", Check.out(x), before);
    }

    private static void noSuchKind() {
        check.says("Promises 8 and 9: -2 (also no such KIND)");
        for (int kind : NO_KINDS) {
            check.due("seal(" + kind + ")", new Rows(1).object().seal(kind), -2);
            check.due("open(" + kind + ")", new Rows(1).object().open(kind), -2);
        }
    }

    private static void noKindFirst() {
        check.says("Terms 3: -2 first when there is no such KIND");
        for (int size : new int[] {0, 1, 15, 17, 33, 63}) {
            Subject x = new Rows(1).key(Rows.octets(size, 1)).object();
            for (int kind : NO_KINDS) {
                check.due("seal(" + kind + ") with a KEY of " + size, x.seal(kind), -2);
                check.due("open(" + kind + ") with a KEY of " + size, x.open(kind), -2);
                check.due("sum(" + kind + ") with a KEY of " + size, x.sum(kind), -2);
            }
            check.due("sum(4) with a KEY of " + size, x.sum(4), -2);
            check.due("sum(16) with a KEY of " + size, x.sum(16), -2);
        }
    }

    private static void keyBeforeLengths() {
        check.says("Terms 3: -3 before -2");
        for (int kind = 1; kind <= 16; kind++) {
            Rows rows = new Rows(kind).key(Rows.octets(17, 1)).tag(5);
            for (int data : new int[] {0, 1, 15, 32}) {
                for (int start : new int[] {0, 1, 16, 64}) {
                    Subject x = rows.data(Rows.octets(data, 1)).start(Rows.octets(start, 1)).object();
                    check.due("seal(" + kind + ") of " + data + ", " + start, x.seal(kind), -3);
                    check.due("open(" + kind + ") of " + data + ", " + start, x.open(kind), -3);
                }
            }
        }
        for (int kind = 1; kind <= 3; kind++) {
            for (int data : new int[] {0, 1, 15, 32}) {
                Subject x = new Rows(1).key(Rows.octets(17, 1)).data(Rows.octets(data, 1)).object();
                check.due("sum(" + kind + ") of " + data, x.sum(kind), -3);
            }
        }
    }

    private static void keyBeforeRight() {
        check.says("Terms 3: -3 before -6");
        for (int kind : new int[] {3, 10, 11, 12, 13, 14, 15, 16}) {
            Rows rows = new Rows(kind).data(Rows.octets(48, 5));
            check.due("open(" + kind + ")", rows.object().open(kind), -6);
            rows.key = Rows.octets(rows.key.length - 1, 1);
            check.due("open(" + kind + ") with a short KEY", rows.object().open(kind), -3);
        }
    }

    private static void lengthsBeforeRight() {
        check.says("Terms 3: -2 before -6");
        for (int kind : new int[] {3, 10, 11, 12, 13, 14, 15, 16}) {
            Rows rows = new Rows(kind).data(Rows.octets(48, 5)).start(Rows.octets(kind == 3 ? 15 : 0, 1));
            if (kind == 3 || kind == 12 || kind == 13 || kind == 16) {
                check.due("open(" + kind + ") with another START", rows.object().open(kind), -2);
            }
            rows = new Rows(kind).data(Rows.octets(15, 5));
            check.due("open(" + kind + ") of 15", rows.object().open(kind), -2);
        }
        for (int kind : new int[] {3, 10, 11}) {
            Rows rows = new Rows(kind).data(Rows.octets(49, 5));
            check.due("open(" + kind + ") of 49", rows.object().open(kind), -2);
        }
        check.due("open(13) with an odd m", new Rows(13).data(Rows.octets(48, 5)).tag(15).object().open(13), -2);
    }

    private static void rangeBeforeRoom() {
        check.says("Terms 3: -2 outside the range, -4 no room: what is outside is never a question of room");
        for (int row = 0; row < 4; row++) {
            Subject x = new Subject();
            x.fill(row, new int[] {64, 512, 64, 256}[row], 1);
            check.due("feed of 9 to a full row", x.feed(row, 1, 9), -2);
            check.due("feed of -1 to a full row", x.feed(row, 1, -1), -2);
            check.due("fill of -1 to a full row", x.fill(row, -1, 1), -2);
        }
        Subject x = new Rows(3).data(Rows.octets(512, 1)).object();
        x.seal(3);
        check.due("take of 528 to no row", x.take(4), -2);
        check.due("fill of many to no row", x.fill(4, 1000, 1), -2);
    }

    /** A new object of the class itself, with rows for GALOIS and BOOK, after 511 calls. */
    private static SlicedModes almostUsed() {
        SlicedModes x = new SlicedModes();
        x.fill(Check.KEY, 16, 1);
        x.fill(Check.DATA, 32, 2);
        x.fill(Check.START, 12, 3);
        x.fill(Check.ASIDE, 20, 4);
        x.seal(12);
        for (int call = 5; call < 511; call++) {
            x.out(call % 48);
        }
        return x;
    }

    private static void lastCall() {
        check.says("An object is used for at most 512 calls: the 512th answers as the first does");
        Subject y = new Subject();
        y.fill(Check.KEY, 16, 1);
        y.fill(Check.DATA, 32, 2);
        y.fill(Check.START, 12, 3);
        y.fill(Check.ASIDE, 20, 4);
        y.seal(12);
        check.due("feed", almostUsed().feed(0, 1, 8), 24);
        check.due("fill", almostUsed().fill(1, 480, 1), 512);
        check.due("alter", almostUsed().alter(0, 15, 9), y.octet(0, 15));
        check.due("octet", almostUsed().octet(3, 19), y.octet(3, 19));
        check.due("cut", almostUsed().cut(1, 0), 32);
        check.due("tag", almostUsed().tag(4), 16);
        check.due("seal", almostUsed().seal(1), 32);
        check.due("open", almostUsed().open(12), -6);
        check.due("sum", almostUsed().sum(3), 16);
        check.due("out", almostUsed().out(47), y.out(47));
        check.due("take", almostUsed().take(0), 48);
        check.due("roundKey", almostUsed().roundKey(175), y.roundKey(175));
        check.due("a refused feed", almostUsed().feed(4, 1, 1), -2);
        check.due("a refused seal", almostUsed().seal(9), -3);
    }

    /** 480 sealings and openings of the most that there can be, and what comes of the last one. */
    private static void dearestCalls() {
        check.says("An object is used for at most 512 calls: also for the dearest ones");
        for (int kind = 1; kind <= 16; kind++) {
            Rows rows = new Rows(kind).data(Rows.octets(kind == 3 ? 511 : 512, 1)).aside(Rows.octets(256, 1));
            byte[] want = rows.sealed();
            SlicedModes x = new SlicedModes();
            int calls = laid(x, Check.KEY, rows.key) + laid(x, Check.DATA, rows.data)
                    + laid(x, Check.START, rows.start) + laid(x, Check.ASIDE, rows.aside);
            int answer = 0;
            for (; calls < 480; calls += 2) {
                x.open(kind);
                answer = x.seal(kind);
            }
            check.due("seal(" + kind + ")", answer, want.length);
            byte[] got = new byte[32];
            for (int i = 0; i < 32; i++) {
                got[i] = (byte) x.out(want.length - 32 + i);
            }
            check.due("the end of OUT", got, Arrays.copyOfRange(want, want.length - 32, want.length));
        }
    }

    private static int laid(SlicedModes x, int row, byte[] octets) {
        int calls = 0;
        for (int i = 0; i < octets.length; i += 8) {
            int n = Math.min(8, octets.length - i);
            long v = 0;
            for (int j = 0; j < n; j++) {
                v = v << 8 | (octets[i + j] & 255);
            }
            x.feed(row, v, n);
            calls++;
        }
        return calls;
    }
}
