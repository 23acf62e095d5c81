import java.util.Random;

/** The rows of an object for a KIND: ordinary ones that fit it, any of which a test may replace. */
final class Rows {
    final int kind;
    byte[] key;
    byte[] data;
    byte[] start;
    byte[] aside;
    int m = 16;

    Rows(int kind) {
        this.kind = kind;
        key = octets(Lengths.twoKeys(kind) ? 32 : 16, 1);
        data = octets(32, 2);
        start = octets(kind == 12 || kind == 13 || kind == 16 ? 12 : 16, 3);
        aside = octets(20, 4);
    }

    /** Octets that are the same for the same seed. */
    static byte[] octets(int n, int seed) {
        byte[] made = new byte[n];
        new Random(1000L * seed + n).nextBytes(made);
        return made;
    }

    Rows data(byte[] octets) {
        data = octets;
        return this;
    }

    Rows key(byte[] octets) {
        key = octets;
        return this;
    }

    Rows start(byte[] octets) {
        start = octets;
        return this;
    }

    Rows aside(byte[] octets) {
        aside = octets;
        return this;
    }

    Rows tag(int octets) {
        m = octets;
        return this;
    }

    Subject object() {
        Subject x = new Subject();
        Check.set(x, Check.KEY, key);
        Check.set(x, Check.DATA, data);
        Check.set(x, Check.START, start);
        Check.set(x, Check.ASIDE, aside);
        x.tag(m);
        return x;
    }

    Reference reference() {
        return new Reference(key, start, aside, m, Lengths.twoKeys(kind));
    }

    byte[] sealed() {
        return reference().sealed(kind, data);
    }

    /** What is sealed stands in DATA, for it to be opened. */
    Subject objectToOpen() {
        byte[] plain = data;
        data = sealed();
        Subject x = object();
        data = plain;
        return x;
    }

    /** Sealing gives what the reference gives, and opening that gives DATA again. */
    void bothWays(Check check, String what) {
        byte[] sealed = sealed();
        seals(check, what, sealed);
        if (sealed.length <= 512) {
            Subject y = objectToOpen();
            check.due(what + ": open(" + kind + ")", y.open(kind), data.length);
            check.due(what + ": open(" + kind + ")", Check.out(y), data);
        }
    }

    void seals(Check check, String what, byte[] want) {
        Subject x = object();
        check.due(what + ": seal(" + kind + ")", x.seal(kind), want.length);
        check.due(what + ": seal(" + kind + ")", Check.out(x), want);
    }
}
