import java.util.function.IntPredicate;

/** Terms 2: for each of the KINDS the lengths of DATA, START, ASIDE and KEY that it tells, and m. */
public final class KindLengthsTest {
    private static final IntPredicate ANY = n -> true;
    private static final IntPredicate SIXTEEN = n -> n == 16;
    private static final Check check = new Check();

    public static void main(String[] args) {
        bare();
        wraps();
        tagged();
        made();
        for (int kind = 1; kind <= 16; kind++) {
            keys(kind);
        }
        for (int kind = 12; kind <= 16; kind++) {
            asides(kind);
        }
        for (int kind : new int[] {12, 13, 14, 16}) {
            tagSizes(kind);
        }
        notLookedAt();
        check.end();
    }

    private static void bare() {
        kind(1, "BOOK: 16 k octets", n -> n % 16 == 0, n -> n % 16 == 0, ANY);
        kind(2, "CHAIN: 16 k octets; START 16", n -> n % 16 == 0, n -> n % 16 == 0, SIXTEEN);
        kind(3, "PADDED: any length (opening 16 k, 16 at least)", ANY, n -> n % 16 == 0 && n >= 16, SIXTEEN);
        kind(4, "STOLEN: 17 octets or more; START 16", n -> n >= 17, n -> n >= 17, SIXTEEN);
        kind(5, "FEED: START 16", ANY, ANY, SIXTEEN);
        kind(6, "FEED OF ONE: START 16", ANY, ANY, SIXTEEN);
        kind(7, "OUT: START 16", ANY, ANY, SIXTEEN);
        kind(8, "COUNT: START 16", ANY, ANY, SIXTEEN);
        kind(9, "SECTOR: START 16, 16 octets or more", n -> n >= 16, n -> n >= 16, SIXTEEN);
    }

    private static void wraps() {
        kind(10, "WRAP: 8 k octets, k 2 or more (opening k 3 or more)",
                n -> n % 8 == 0 && n >= 16, n -> n % 8 == 0 && n >= 24, ANY);
        kind(11, "PADDED WRAP: 1 octet or more (opening 8 k, k 2 or more)",
                n -> n >= 1, n -> n % 8 == 0 && n >= 16, ANY);
    }

    private static void tagged() {
        kind(12, "GALOIS: START 1 or more; opening: DATA has m octets at least", ANY, n -> n >= 16, n -> n >= 1);
        kind(13, "COUNTED: START 7 .. 13; opening: DATA has m octets at least",
                ANY, n -> n >= 16, n -> n >= 7 && n <= 13);
        kind(14, "TWICE: START of any length; opening: DATA has m octets at least", ANY, n -> n >= 16, ANY);
        kind(16, "OFFSETS: START 1 .. 15; opening: DATA has m octets at least",
                ANY, n -> n >= 16, n -> n >= 1 && n <= 15);
        for (int kind : new int[] {12, 13, 14, 16}) {
            openedData(kind, "DATA has m octets at least", n -> n >= 4, 4);
            openedData(kind, "DATA has m octets at least", n -> n >= 10, 10);
        }
    }

    private static void made() {
        kind(15, "MADE: opening wants 16 octets at least", ANY, n -> n >= 16, ANY);
    }

    private static void kind(int kind, String words, IntPredicate sealing, IntPredicate opening, IntPredicate starting) {
        sealedData(kind, words, sealing);
        openedData(kind, words, opening, 16);
        starts(kind, words, starting);
    }

    private static void sealedData(int kind, String words, IntPredicate fits) {
        check.says("Terms 2, " + kind + ", DATA that is sealed: " + words);
        for (int n = 0; n <= 512; n++) {
            Rows rows = new Rows(kind).data(Rows.octets(n, 5));
            sealed(rows, fits.test(n), "DATA of " + n);
        }
    }

    private static void sealed(Rows rows, boolean fits, String what) {
        if (fits) {
            rows.seals(check, what, rows.sealed());
        } else {
            check.due(what + ": seal(" + rows.kind + ")", rows.object().seal(rows.kind), -2);
        }
    }

    /** How many octets are opened of n octets; of PADDED it may be one less or up to 16 less. */
    private static int openedSize(int kind, int n, int m) {
        switch (kind) {
            case 3: return n - 1 - n / 16 % 16;
            case 10, 11: return n - 8;
            case 12, 13, 14, 16: return n - m;
            case 15: return n - 16;
            default: return n;
        }
    }

    private static void openedData(int kind, String words, IntPredicate fits, int m) {
        check.says("Terms 2, " + kind + ", DATA that is opened, m " + m + ": " + words);
        for (int n = 0; n <= 512; n++) {
            String what = "DATA of " + n + ": open(" + kind + ")";
            Rows rows = new Rows(kind).tag(m);
            if (fits.test(n)) {
                Subject x = rows.data(Rows.octets(openedSize(kind, n, m), 6)).objectToOpen();
                check.due(what + ", DATA", x.cut(Check.DATA, n), n);
                check.due(what, x.open(kind), rows.data.length);
                check.due(what, Check.out(x), rows.data);
            } else {
                check.due(what, rows.data(Rows.octets(n, 6)).object().open(kind), -2);
            }
        }
    }

    private static void starts(int kind, String words, IntPredicate fits) {
        check.says("Terms 2, " + kind + ", START: " + words);
        for (int n = 0; n <= 64; n++) {
            Rows rows = new Rows(kind).start(Rows.octets(n, 7));
            if (fits.test(n)) {
                rows.bothWays(check, "START of " + n);
            } else {
                check.due("START of " + n + ": seal(" + kind + ")", rows.object().seal(kind), -2);
                Subject x = rows.data(Rows.octets(48, 8)).object();
                check.due("START of " + n + ": open(" + kind + ")", x.open(kind), -2);
            }
        }
    }

    private static void keys(int kind) {
        int unit = kind == 9 || kind == 15 ? 2 : 1;
        check.says("Terms 2, " + kind + ": KEYS of one: 16, 24, 32 octets; of 9 and 15: 32, 48, 64");
        for (int n = 0; n <= 64; n++) {
            Rows rows = new Rows(kind).key(Rows.octets(n, 9));
            if (n == 16 * unit || n == 24 * unit || n == 32 * unit) {
                rows.bothWays(check, "KEY of " + n);
            } else {
                check.due("KEY of " + n + ": seal(" + kind + ")", rows.object().seal(kind), -3);
                check.due("KEY of " + n + ": open(" + kind + ")", rows.object().open(kind), -3);
            }
        }
    }

    private static void asides(int kind) {
        check.says("Terms 2, " + kind + ": ASIDE may have any length, 0 .. 256");
        for (int n = 0; n <= 256; n += n < 34 || n > 238 ? 1 : 6) {
            new Rows(kind).aside(Rows.octets(n, 10)).bothWays(check, "ASIDE of " + n);
        }
    }

    private static void tagSizes(int kind) {
        check.says("Terms 2, " + kind + ": TAGS: the first m count, "
                + (kind == 13 ? "4, 6, .. 16 (-2: 13 with an odd m)" : "4 .. 16 as told by tag()"));
        for (int m = 4; m <= 16; m++) {
            Rows rows = new Rows(kind).tag(m);
            if (kind == 13 && m % 2 == 1) {
                check.due("m of " + m + ": seal(13)", rows.object().seal(13), -2);
                check.due("m of " + m + ": open(13)", rows.object().open(13), -2);
                check.due("m of " + m + ": open(13) of " + m, rows.data(Rows.octets(m, 1)).object().open(13), -2);
                continue;
            }
            rows.bothWays(check, "m of " + m);
            check.due("m of " + m + ": how many", rows.object().seal(kind), 32 + m);
            atLeastTag(kind, m);
        }
    }

    private static void atLeastTag(int kind, int m) {
        Rows rows = new Rows(kind).tag(m).data(new byte[0]);
        Subject x = rows.objectToOpen();
        check.due("m of " + m + ": open(" + kind + ") of a tag alone", x.open(kind), 0);
        check.due("m of " + m + ": OUT", x.out(0), -2);
        for (int n = 0; n < m; n++) {
            x.cut(Check.DATA, m - 1 - n);
            check.due("m of " + m + ": open(" + kind + ") of " + (m - 1 - n), x.open(kind), -2);
        }
    }

    private static void notLookedAt() {
        check.says("Terms 2: a row of which a KIND tells nothing is not looked at");
        for (int kind = 1; kind <= 11; kind++) {
            byte[] want = new Rows(kind).sealed();
            for (int n : new int[] {0, 1, 15, 16, 17, 255, 256}) {
                Rows rows = new Rows(kind).aside(Rows.octets(n, 11));
                rows.seals(check, "ASIDE of " + n, want);
                rows.bothWays(check, "ASIDE of " + n);
            }
            for (int m = 4; m <= 16; m++) {
                Rows rows = new Rows(kind).tag(m);
                rows.seals(check, "m of " + m, want);
                rows.bothWays(check, "m of " + m);
            }
        }
        for (int kind : new int[] {1, 10, 11}) {
            byte[] want = new Rows(kind).sealed();
            for (int n = 0; n <= 64; n++) {
                new Rows(kind).start(Rows.octets(n, 12)).seals(check, "START of " + n, want);
            }
        }
        byte[] want = new Rows(15).sealed();
        for (int m = 4; m <= 16; m++) {
            Rows rows = new Rows(15).tag(m);
            rows.seals(check, "There is no TAG: m of " + m, want);
            rows.bothWays(check, "There is no TAG: m of " + m);
        }
    }
}
