import java.util.Arrays;
import java.util.HexFormat;

/** Counts the answers that are not as due, and ends a test with exit code 1 if there was one. */
final class Check {
    static final int KEY = 0;
    static final int DATA = 1;
    static final int START = 2;
    static final int ASIDE = 3;

    private static final int MOST_PRINTED = 40;
    private int wrong;

    void due(String what, long got, long want) {
        if (got != want) {
            report(what + " answered " + got + ", due is " + want);
        }
    }

    void holds(String what, boolean right) {
        if (!right) {
            report(what);
        }
    }

    void due(String what, byte[] got, byte[] want) {
        if (!Arrays.equals(got, want)) {
            report(what + " gave " + hex(got) + ", due is " + hex(want));
        }
    }

    private void report(String line) {
        wrong++;
        if (wrong <= MOST_PRINTED) {
            System.out.println(line);
        }
    }

    void end() {
        System.out.println(wrong == 0 ? "all answers are as due" : wrong + " answers are not as due");
        if (wrong != 0) {
            System.exit(1);
        }
    }

    static byte[] octets(String hex) {
        return HexFormat.of().parseHex(hex.replace(" ", ""));
    }

    static String hex(byte[] octets) {
        return HexFormat.of().formatHex(octets);
    }

    /** Makes a row of an object these octets. */
    static void set(SlicedModes x, int row, byte[] octets) {
        x.feed(row, 0, 0);
        for (int i = 0; i < octets.length; i += 8) {
            int n = Math.min(8, octets.length - i);
            long v = 0;
            for (int j = 0; j < n; j++) {
                v = v << 8 | (octets[i + j] & 255);
            }
            x.feed(row, v, n);
        }
    }

    static byte[] out(SlicedModes x) {
        int n = 0;
        while (x.out(n) >= 0) {
            n++;
        }
        byte[] got = new byte[n];
        for (int i = 0; i < n; i++) {
            got[i] = (byte) x.out(i);
        }
        return got;
    }

    static byte[] row(SlicedModes x, int row) {
        int n = 0;
        while (x.octet(row, n) >= 0) {
            n++;
        }
        byte[] got = new byte[n];
        for (int i = 0; i < n; i++) {
            got[i] = (byte) x.octet(row, i);
        }
        return got;
    }
}
