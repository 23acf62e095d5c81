import java.io.ByteArrayOutputStream;
import java.math.BigInteger;
import java.security.GeneralSecurityException;
import java.security.spec.AlgorithmParameterSpec;
import java.util.Arrays;
import javax.crypto.Cipher;
import javax.crypto.spec.GCMParameterSpec;
import javax.crypto.spec.IvParameterSpec;
import javax.crypto.spec.SecretKeySpec;

/**
 * What sealing and summing give, by other means than the class under test: the Java library where
 * it knows the kind, and else the document's words on rows of octets and on large numbers.
 */
final class Reference {
    private final byte[] key;
    private final byte[] start;
    private final byte[] aside;
    private final int m;
    private final Cipher first;
    private final Cipher second;

    Reference(byte[] key, byte[] start, byte[] aside, int m, boolean twoKeys) {
        int size = twoKeys ? key.length / 2 : key.length;
        this.key = Arrays.copyOf(key, size);
        this.start = start;
        this.aside = aside;
        this.m = m;
        first = blockCipher(this.key);
        second = blockCipher(Arrays.copyOfRange(key, key.length - size, key.length));
    }

    private static Cipher blockCipher(byte[] key) {
        return blockCipher(key, Cipher.ENCRYPT_MODE);
    }

    private static Cipher blockCipher(byte[] key, int way) {
        try {
            Cipher cipher = Cipher.getInstance("AES/ECB/NoPadding");
            cipher.init(way, new SecretKeySpec(key, "AES"));
            return cipher;
        } catch (GeneralSecurityException e) {
            throw new IllegalStateException(e);
        }
    }

    private byte[] library(String way, AlgorithmParameterSpec how, byte[] p) {
        try {
            Cipher cipher = Cipher.getInstance(way);
            SecretKeySpec secret = new SecretKeySpec(key, "AES");
            if (how == null) {
                cipher.init(Cipher.ENCRYPT_MODE, secret);
            } else {
                cipher.init(Cipher.ENCRYPT_MODE, secret, how);
            }
            if (how instanceof GCMParameterSpec) {
                cipher.updateAAD(aside);
            }
            return cipher.doFinal(p);
        } catch (GeneralSecurityException e) {
            throw new IllegalStateException(e);
        }
    }

    private static byte[] e(Cipher by, byte[] block) {
        try {
            return by.doFinal(block);
        } catch (GeneralSecurityException e) {
            throw new IllegalStateException(e);
        }
    }

    /** E of each block of a row. */
    static byte[] e(byte[] key, byte[] blocks) {
        return e(blockCipher(key), blocks);
    }

    /** D of each block of a row. */
    static byte[] d(byte[] key, byte[] blocks) {
        return e(blockCipher(key, Cipher.DECRYPT_MODE), blocks);
    }

    byte[] sealed(int kind, byte[] p) {
        AlgorithmParameterSpec iv = start.length == 16 ? new IvParameterSpec(start) : null;
        switch (kind) {
            case 1: return library("AES/ECB/NoPadding", null, p);
            case 2: return library("AES/CBC/NoPadding", iv, p);
            case 3: return library("AES/CBC/PKCS5Padding", iv, p);
            case 4: return stolen(p);
            case 5: return library("AES/CFB/NoPadding", iv, p);
            case 6: return library("AES/CFB8/NoPadding", iv, p);
            case 7: return library("AES/OFB/NoPadding", iv, p);
            case 8: return library("AES/CTR/NoPadding", iv, p);
            case 9: return sector(p);
            case 10: return wrapped(Check.octets("a6a6a6a6a6a6a6a6"), p);
            case 11: return wrapped(number(0xa65959a600000000L | p.length, 8), padded(p, 8));
            case 12: return galois(p);
            case 13: return counted(p);
            case 14: return twice(p);
            case 15: return made(p);
            default: return offsets(p);
        }
    }

    byte[] summed(int kind, byte[] p) {
        switch (kind) {
            case 1: return mac(p);
            case 2: return chainSum(p);
            default: return galoisSum(p);
        }
    }

    static byte[] join(byte[]... parts) {
        ByteArrayOutputStream all = new ByteArrayOutputStream();
        for (byte[] part : parts) {
            all.writeBytes(part);
        }
        return all.toByteArray();
    }

    static byte[] number(long v, int octets) {
        byte[] made = new byte[octets];
        for (int i = 0; i < octets; i++) {
            int right = octets - 1 - i;
            made[i] = right < 8 ? (byte) (v >>> (8 * right)) : 0;
        }
        return made;
    }

    static byte[] padded(byte[] p, int multiple) {
        return Arrays.copyOf(p, (p.length + multiple - 1) / multiple * multiple);
    }

    static byte[] marked(byte[] part) {
        return Arrays.copyOf(join(part, new byte[] {(byte) 128}), 16);
    }

    static byte[] part(byte[] p, int from, int size) {
        return Arrays.copyOfRange(p, from, Math.min(p.length, from + size));
    }

    /** The sum of two rows, as long as the shorter one. */
    static byte[] plus(byte[] a, byte[] b) {
        byte[] made = new byte[Math.min(a.length, b.length)];
        for (int i = 0; i < made.length; i++) {
            made[i] = (byte) (a[i] ^ b[i]);
        }
        return made;
    }

    static byte[] block(BigInteger v) {
        byte[] made = new byte[16];
        for (int i = 0; i < 16; i++) {
            made[i] = v.shiftRight(120 - 8 * i).byteValue();
        }
        return made;
    }

    static byte[] doubled(byte[] block) {
        BigInteger v = new BigInteger(1, block).shiftLeft(1);
        return block(v.testBit(128) ? v.clearBit(128).xor(BigInteger.valueOf(135)) : v);
    }

    static byte[] reversed(byte[] block) {
        byte[] made = new byte[16];
        for (int i = 0; i < 16; i++) {
            made[i] = block[15 - i];
        }
        return made;
    }

    private byte[] counting(Cipher by, byte[] from, byte[] p) {
        byte[] made = new byte[0];
        BigInteger counter = new BigInteger(1, from);
        for (int at = 0; at < p.length; at += 16) {
            made = join(made, plus(part(p, at, 16), e(by, block(counter))));
            counter = counter.add(BigInteger.ONE);
        }
        return made;
    }

    private byte[] stolen(byte[] p) {
        byte[] c = library("AES/CBC/NoPadding", new IvParameterSpec(start), padded(p, 16));
        int last = c.length - 16;
        return Arrays.copyOf(join(part(c, 0, last - 16), part(c, last, 16), part(c, last - 16, 16)), p.length);
    }

    private byte[] sector(byte[] p) {
        byte[] t = e(second, start);
        byte[] made = new byte[0];
        int whole = p.length / 16 * 16;
        for (int at = 0; at < whole; at += 16) {
            made = join(made, plus(e(first, plus(part(p, at, 16), t)), t));
            t = reversed(doubled(reversed(t)));
        }
        int over = p.length - whole;
        if (over == 0) {
            return made;
        }
        byte[] x = part(made, whole - 16, 16);
        byte[] filled = join(part(p, whole, over), part(x, over, 16 - over));
        return join(part(made, 0, whole - 16), plus(e(first, plus(filled, t)), t), part(x, 0, over));
    }

    /** R of 8 octets is one block, as PADDED WRAP wants it; WRAP has none such. */
    byte[] wrapped(byte[] sign, byte[] r) {
        if (r.length == 8) {
            return e(first, join(sign, r));
        }
        byte[] a = sign;
        byte[] rows = r.clone();
        int k = r.length / 8;
        for (int j = 0; j < 6; j++) {
            for (int i = 1; i <= k; i++) {
                byte[] b = e(first, join(a, part(rows, 8 * i - 8, 8)));
                a = plus(part(b, 0, 8), number((long) k * j + i, 8));
                System.arraycopy(b, 8, rows, 8 * i - 8, 8);
            }
        }
        return join(a, rows);
    }

    /** In the library's GALOIS a tag has 12 octets at least, so its first m are taken here. */
    private byte[] galois(byte[] p) {
        byte[] made = library("AES/GCM/NoPadding", new GCMParameterSpec(128, start), p);
        return Arrays.copyOf(made, p.length + m);
    }

    private byte[] galoisSum(byte[] p) {
        BigInteger h = new BigInteger(1, e(first, new byte[16]));
        BigInteger y = BigInteger.ZERO;
        for (int at = 0; at < p.length; at += 16) {
            y = galoisProduct(y.xor(new BigInteger(1, part(p, at, 16))), h);
        }
        return block(y);
    }

    /** Bit 127 of the numbers is x^0; powers beyond x^127 are taken down one by one. */
    static BigInteger galoisProduct(BigInteger a, BigInteger b) {
        int[] product = new int[255];
        for (int i = 0; i < 128; i++) {
            for (int j = 0; j < 128; j++) {
                product[i + j] ^= a.testBit(127 - i) && b.testBit(127 - j) ? 1 : 0;
            }
        }
        for (int i = 254; i >= 128; i--) {
            for (int step : new int[] {128, 121, 126, 127}) {
                product[i - step] ^= product[i];
            }
        }
        BigInteger made = BigInteger.ZERO;
        for (int i = 0; i < 128; i++) {
            made = product[i] == 1 ? made.setBit(127 - i) : made;
        }
        return made;
    }

    private byte[] chainSum(byte[] p) {
        byte[] y = new byte[16];
        for (int at = 0; at < p.length; at += 16) {
            y = e(first, plus(y, part(p, at, 16)));
        }
        return y;
    }

    private byte[] mac(byte[] p) {
        byte[] k1 = doubled(e(first, new byte[16]));
        int last = p.length == 0 ? 0 : (p.length - 1) / 16 * 16;
        byte[] end = part(p, last, 16);
        end = end.length == 16 ? plus(end, k1) : plus(marked(end), doubled(k1));
        return chainSum(join(part(p, 0, last), end));
    }

    private byte[] counted(byte[] p) {
        int q = 15 - start.length;
        int flags = (aside.length > 0 ? 64 : 0) + 8 * (m - 2) / 2 + q - 1;
        byte[] told = aside.length > 0 ? padded(join(number(aside.length, 2), aside), 16) : new byte[0];
        byte[] t = chainSum(join(number(flags, 1), start, number(p.length, q), told, padded(p, 16)));
        byte[] head = join(number(q - 1, 1), start);
        byte[] c = counting(first, join(head, number(1, q)), p);
        byte[] tag = plus(t, e(first, join(head, number(0, q))));
        return join(c, Arrays.copyOf(tag, m));
    }

    private byte[] numberedSum(int k, byte[] x) {
        return mac(join(number(k, 16), x));
    }

    private byte[] twice(byte[] p) {
        byte[] n = numberedSum(0, start);
        byte[] c = counting(first, n, p);
        byte[] tag = plus(n, plus(numberedSum(1, aside), numberedSum(2, c)));
        return join(c, Arrays.copyOf(tag, m));
    }

    private byte[] made(byte[] p) {
        byte[] d = mac(new byte[16]);
        if (aside.length > 0) {
            d = plus(doubled(d), mac(aside));
        }
        if (start.length > 0) {
            d = plus(doubled(d), mac(start));
        }
        int last = p.length - 16;
        byte[] v = last >= 0
                ? mac(join(part(p, 0, last), plus(part(p, last, 16), d)))
                : mac(plus(doubled(d), marked(p)));
        byte[] from = v.clone();
        from[8] &= 127;
        from[12] &= 127;
        return join(v, counting(second, from, p));
    }

    private byte[] offsets(byte[] p) {
        byte[] star = e(first, new byte[16]);
        byte[] dollar = doubled(star);
        byte[] o = firstOffset();
        byte[] sum = new byte[16];
        byte[] c = new byte[0];
        int whole = p.length / 16 * 16;
        for (int at = 0; at < whole; at += 16) {
            o = plus(o, step(dollar, at / 16 + 1));
            c = join(c, plus(o, e(first, plus(part(p, at, 16), o))));
            sum = plus(sum, part(p, at, 16));
        }
        if (whole < p.length) {
            o = plus(o, star);
            c = join(c, plus(part(p, whole, 16), e(first, o)));
            sum = plus(sum, marked(part(p, whole, 16)));
        }
        byte[] tag = plus(e(first, plus(sum, plus(o, dollar))), offsetsHash(star, dollar));
        return join(c, Arrays.copyOf(tag, m));
    }

    private byte[] firstOffset() {
        byte[] n = join(new byte[16 - start.length], start);
        n[0] += (byte) ((8 * m % 128) * 2);
        n[15 - start.length] += 1;
        int b = n[15] & 63;
        n[15] &= (byte) 192;
        byte[] k = e(first, n);
        byte[] all = join(k, plus(part(k, 0, 8), part(k, 1, 8)));
        return block(new BigInteger(1, all).shiftRight(64 - b));
    }

    private static byte[] step(byte[] dollar, int i) {
        byte[] l = doubled(dollar);
        for (int left = i; left % 2 == 0; left /= 2) {
            l = doubled(l);
        }
        return l;
    }

    private byte[] offsetsHash(byte[] star, byte[] dollar) {
        byte[] o = new byte[16];
        byte[] hash = new byte[16];
        int whole = aside.length / 16 * 16;
        for (int at = 0; at < whole; at += 16) {
            o = plus(o, step(dollar, at / 16 + 1));
            hash = plus(hash, e(first, plus(part(aside, at, 16), o)));
        }
        if (whole < aside.length) {
            hash = plus(hash, e(first, plus(marked(part(aside, whole, 16)), plus(o, star))));
        }
        return hash;
    }
}
