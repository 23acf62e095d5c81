import java.io.ByteArrayOutputStream;
import java.util.Arrays;
import java.util.HexFormat;

/** Counts the answers that are not as due, and ends a test with exit code 1 if there was one. */
final class Check {
    static final int KEY = 0;
    static final int DATA = 1;
    static final int START = 2;
    static final int ASIDE = 3;

    // Of one sentence, so that none hides the others.
    private static final int MOST_PRINTED = 8;
    private static final int BEYOND_ALL_ROWS = 1000;
    private String sentence = "";
    private int asked = 1;
    private int printed;
    private int wrong;

    /** What is checked from here on is the test of this sentence of the document. */
    void says(String words) {
        endSentence();
        sentence = words + " | ";
        asked = 0;
        printed = 0;
    }

    /** A sentence about which nothing was asked has no test. */
    private void endSentence() {
        if (asked == 0) {
            report("nothing was asked");
        }
    }

    void due(String what, long got, long want) {
        asked++;
        if (got != want) {
            report(what + " answered " + got + ", due is " + want);
        }
    }

    void holds(String what, boolean right) {
        asked++;
        if (!right) {
            report(what);
        }
    }

    void due(String what, byte[] got, byte[] want) {
        asked++;
        if (!Arrays.equals(got, want)) {
            report(what + " gave " + hex(got) + ", due is " + hex(want));
        }
    }

    private void report(String line) {
        wrong++;
        printed++;
        if (printed <= MOST_PRINTED) {
            System.out.println(sentence + line);
        }
    }

    void end() {
        endSentence();
        System.out.println(wrong == 0 ? "all answers are as due" : wrong + " answers are not as due");
        if (wrong != 0) {
            System.exit(1);
        }
    }

    static byte[] octets(String hex) {
        return HexFormat.of().parseHex(hex.replace(" ", ""));
    }

    static String hex(byte[] octets) {
        return HexFormat.of().formatHex(octets);
    }

    /** Makes a row of an object these octets. */
    static void set(Subject x, int row, byte[] octets) {
        x.feed(row, 0, 0);
        for (int i = 0; i < octets.length; i += 8) {
            int n = Math.min(8, octets.length - i);
            long v = 0;
            for (int j = 0; j < n; j++) {
                v = v << 8 | (octets[i + j] & 255);
            }
            x.feed(row, v, n);
        }
    }

    static byte[] out(Subject x) {
        ByteArrayOutputStream got = new ByteArrayOutputStream();
        for (int i = 0; i < BEYOND_ALL_ROWS; i++) {
            int v = x.out(i);
            if (v < 0) {
                break;
            }
            got.write(v);
        }
        return got.toByteArray();
    }

    static byte[] row(Subject x, int row) {
        ByteArrayOutputStream got = new ByteArrayOutputStream();
        for (int i = 0; i < BEYOND_ALL_ROWS; i++) {
            int v = x.octet(row, i);
            if (v < 0) {
                break;
            }
            got.write(v);
        }
        return got.toByteArray();
    }
}
