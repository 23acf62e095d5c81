/** Which lengths the document tells for a KIND or a SUM, and so what is answered to others. */
final class Lengths {
    private Lengths() {
    }

    static boolean twoKeys(int kind) {
        return kind == 9 || kind == 15;
    }

    static boolean tagged(int kind) {
        return kind == 12 || kind == 13 || kind == 14 || kind == 16;
    }

    /** -2, -3 or 0, for the lengths of the rows and of the tag. */
    static int refusal(int kind, boolean opening, int[] rows, int m) {
        if (kind < 1 || kind > 16) {
            return -2;
        }
        int unit = twoKeys(kind) ? 2 : 1;
        int key = rows[Check.KEY];
        if (key != 16 * unit && key != 24 * unit && key != 32 * unit) {
            return -3;
        }
        boolean fits = startFits(kind, rows[Check.START]) && dataFits(kind, opening, rows[Check.DATA], m);
        return fits && !(kind == 13 && m % 2 == 1) ? 0 : -2;
    }

    private static boolean startFits(int kind, int size) {
        if (kind >= 2 && kind <= 9) {
            return size == 16;
        }
        if (kind == 12) {
            return size > 0;
        }
        if (kind == 13) {
            return 7 <= size && size <= 13;
        }
        return kind != 16 || 1 <= size && size <= 15;
    }

    private static boolean dataFits(int kind, boolean opening, int size, int m) {
        if (kind == 1 || kind == 2) {
            return size % 16 == 0;
        }
        if (kind == 4 || kind == 9) {
            return size >= (kind == 4 ? 17 : 16);
        }
        if (kind == 10) {
            return size % 8 == 0 && size / 8 >= (opening ? 3 : 2);
        }
        if (!opening) {
            return kind != 11 || size >= 1;
        }
        if (kind == 3) {
            return size % 16 == 0 && size >= 16;
        }
        if (kind == 11) {
            return size % 8 == 0 && size / 8 >= 2;
        }
        return kind == 15 ? size >= 16 : !tagged(kind) || size >= m;
    }

    static int sumRefusal(int kind, int[] rows) {
        if (kind < 1 || kind > 3) {
            return -2;
        }
        int key = rows[Check.KEY];
        if (key != 16 && key != 24 && key != 32) {
            return -3;
        }
        int data = rows[Check.DATA];
        return kind == 1 || data > 0 && data % 16 == 0 ? 0 : -2;
    }
}
