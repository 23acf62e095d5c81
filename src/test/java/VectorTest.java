/** Promises 8, 9 and 10 on vectors that others have published. */
public final class VectorTest {
    private static final String KEY_38A = "2b7e151628aed2a6abf7158809cf4f3c";
    private static final String TEXT_38A = "6bc1bee22e409f96e93d7e117393172a ae2d8a571e03ac9c9eb76fac45af8e51"
            + "30c81c46a35ce411e5fbc1191a0a52ef f69f2445df4f9b17ad2b417be66c3710";
    private static final String UP_TO_15 = "000102030405060708090a0b0c0d0e0f";
    private static final Check check = new Check();

    public static void main(String[] args) {
        special38A();
        stolen();
        sectors();
        wraps();
        galois();
        counted();
        twice();
        made();
        offsets();
        macs();
        check.end();
    }

    /** Sealing gives what is due, opening that gives DATA back, and DATA stays in both. */
    private static void vector(int kind, String[] keyStartAside, String data, String sealed, int m) {
        Subject x = new Subject();
        Check.set(x, Check.KEY, Check.octets(keyStartAside[0]));
        Check.set(x, Check.START, Check.octets(keyStartAside[1]));
        Check.set(x, Check.ASIDE, Check.octets(keyStartAside[2]));
        Check.set(x, Check.DATA, Check.octets(data));
        x.tag(m);
        byte[] plain = Check.octets(data);
        byte[] want = Check.octets(sealed);
        check.due("seal(" + kind + ")", x.seal(kind), want.length);
        check.due("seal(" + kind + ")", Check.out(x), want);
        check.due("DATA after seal(" + kind + ")", Check.row(x, Check.DATA), plain);
        check.due("take", x.take(Check.DATA), want.length);
        check.due("open(" + kind + ")", x.open(kind), plain.length);
        check.due("open(" + kind + ")", Check.out(x), plain);
        check.due("DATA after open(" + kind + ")", Check.row(x, Check.DATA), want);
    }

    private static String[] rows(String key, String start, String aside) {
        return new String[] {key, start, aside};
    }

    private static void special38A() {
        String[] rows = rows(KEY_38A, UP_TO_15, "");
        vector(1, rows, TEXT_38A, "3ad77bb40d7a3660a89ecaf32466ef97 f5d3d58503b9699de785895a96fdbaaf"
                + "43b1cd7f598ece23881b00e3ed030688 7b0c785e27e8ad3f8223207104725dd4", 16);
        vector(2, rows, TEXT_38A, "7649abac8119b246cee98e9b12e9197d 5086cb9b507219ee95db113a917678b2"
                + "73bed6b8e3c1743b7116e69e22229516 3ff1caa1681fac09120eca307586e1a7", 16);
        vector(5, rows, TEXT_38A, "3b3fd92eb72dad20333449f8e83cfb4a c8a64537a0b3a93fcde3cdad9f1ce58b"
                + "26751f67a3cbb140b1808cf187a4f4df c04b05357c5d1c0eeac4c66f9ff7f2e6", 16);
        vector(6, rows, TEXT_38A.substring(0, 37), "3b79424c9c0dd436bace9e0ed4586a4f32b9", 16);
        vector(7, rows, TEXT_38A, "3b3fd92eb72dad20333449f8e83cfb4a 7789508d16918f03f53c52dac54ed825"
                + "9740051e9c5fecf64344f7a82260edcc 304c6528f659c77866a510d9c1d6ae5e", 16);
        vector(8, rows(KEY_38A, "f0f1f2f3f4f5f6f7f8f9fafbfcfdfeff", ""), TEXT_38A,
                "874d6191b620e3261bef6864990db6ce 9806f66b7970fdff8617187bb9fffdff"
                + "5ae4df3edbd5d35e5b4f09020db03eab 1e031dda2fbe03d1792170a0f3009cee", 16);
    }

    private static void stolen() {
        String[] rows = rows("636869636b656e207465726979616b69", "00000000000000000000000000000000", "");
        String text = "4920776f756c64206c696b65207468652047656e6572616c20476175277320436869636b656e2c20706c65617365"
                + "2c20616e6420776f6e746f6e20736f75702e";
        vector(4, rows, text.substring(0, 34), "c6353568f2bf8cb4d8a580362da7ff7f97", 16);
        vector(4, rows, text.substring(0, 62), "fc00783e0efdb2c1d445d4c8eff7ed2297687268d6ecccc0c07b25e25ecfe5", 16);
        vector(4, rows, text.substring(0, 64), "39312523a78662d5be7fcbcc98ebf5a897687268d6ecccc0c07b25e25ecfe584", 16);
        vector(4, rows, text.substring(0, 94), "97687268d6ecccc0c07b25e25ecfe584b3fffd940c16a18c1b5549d2f838029e"
                + "39312523a78662d5be7fcbcc98ebf5", 16);
        vector(4, rows, text.substring(0, 96), "97687268d6ecccc0c07b25e25ecfe5849dad8bbb96c4cdc03bc103e1a194bbd8"
                + "39312523a78662d5be7fcbcc98ebf5a8", 16);
        vector(4, rows, text.substring(0, 128), "97687268d6ecccc0c07b25e25ecfe58439312523a78662d5be7fcbcc98ebf5a8"
                + "4807efe836ee89a526730dbc2f7bc8409dad8bbb96c4cdc03bc103e1a194bbd8", 16);
    }

    private static void sectors() {
        String none = "00000000000000000000000000000000";
        vector(9, rows(none + none, none, ""), none + none,
                "917cf69ebd68b2ec9b9fe9a3eadda692cd43d2f59598ed858c02c2652fbf922e", 16);
        vector(9, rows("1111111111111111111111111111111122222222222222222222222222222222",
                "33333333330000000000000000000000", ""),
                "4444444444444444444444444444444444444444444444444444444444444444",
                "c454185e6a16936e39334038acef838bfb186fff7480adc4289382ecd6d394f0", 16);
        String[] rows = rows("fffefdfcfbfaf9f8f7f6f5f4f3f2f1f0bfbebdbcbbbab9b8b7b6b5b4b3b2b1b0",
                "9a785634120000000000000000000000", "");
        vector(9, rows, UP_TO_15 + "10", "6c1625db4671522d3d7599601de7ca09ed", 16);
        vector(9, rows, UP_TO_15 + "1011", "d069444b7a7e0cab09e24447d24deb1fedbf", 16);
        vector(9, rows, UP_TO_15 + "101112", "e5df1351c0544ba1350b3363cd8ef4beedbf9d", 16);
        vector(9, rows, UP_TO_15 + "10111213", "9d84c813f719aa2c7be3f66171c7c5c2edbf9dac", 16);
    }

    private static void wraps() {
        String key = UP_TO_15 + "101112131415161718191a1b1c1d1e1f";
        String data = "00112233445566778899aabbccddeeff" + UP_TO_15;
        vector(10, rows(key.substring(0, 48), "", ""), data.substring(0, 32),
                "96778b25ae6ca435f92b5b97c050aed2468ab8a17ad84e5d", 16);
        vector(10, rows(key, "", ""), data.substring(0, 32),
                "64e8c3f9ce0f5ba263e9777905818a2a93c8191e7d6e8ae7", 16);
        vector(10, rows(key, "", ""), data,
                "28c9f404c4b810f4cbccb35cfb87f8263f5786e2d80ed326cbc7f0e71a99f43bfb988b9b7a02dd21", 16);
    }

    private static void galois() {
        String key = "feffe9928665731c6d6a8f9467308308";
        String aside = "feedfacedeadbeeffeedfacedeadbeefabaddad2";
        String text = "d9313225f88406e5a55909c5aff5269a86a7a9531534f7da2e4c303d8a318a72"
                + "1c3c0c95956809532fcf0e2449a6b525b16aedf5aa0de657ba637b39";
        vector(12, rows(key, "cafebabefacedbaddecaf888", aside), text,
                "42831ec2217774244b7221b784d0d49ce3aa212f2c02a4e035c17e2329aca12e"
                + "21d514b25466931c7d8f6a5aac84aa051ba30b396a0aac973d58e091"
                + "5bc94fbc3221a5db94fae95ae7121a47", 16);
        vector(12, rows(key, "cafebabefacedbad", aside), text,
                "61353b4c2806934a777ff51fa22a4755699b2a714fcdc6f83766e5f97b6c7423"
                + "73806900e49f24b22b097544d4896b424989b5e1ebac0f07c23f4598"
                + "3612d2e79e3b0785561be14aaca2fccb", 16);
    }

    private static void counted() {
        String key = "404142434445464748494a4b4c4d4e4f";
        String text = "202122232425262728292a2b2c2d2e2f3031323334353637";
        vector(13, rows(key, "1011121314151617", UP_TO_15), text.substring(0, 32),
                "d2a1f0e051ea5f62081a7792073d593d1fc64fbfaccd", 6);
        vector(13, rows(key, "101112131415161718191a1b", UP_TO_15 + "10111213"), text,
                "e3b201a9f5b71a7a9b1ceaeccd97e70b6176aad9a4428aa5484392fbc1b09951", 8);
    }

    private static void twice() {
        vector(14, rows("233952dee4d5ed5f9b9c6d6ff80ff478", "62ec67f9c3a4a407fcb2a8c49031a8b3",
                "6bfb914fd07eae6b"), "", "e037830e8389f27b025a2d6527e79d01", 16);
        vector(14, rows("91945d3f4dcbee0bf45ef52255f095a4", "becaf043b0a23d843194ba972c66debd",
                "fa3bfd4806eb53fa"), "f7fb", "19dd5c4c9331049d0bdab0277408f67967e5", 16);
        vector(14, rows("8395fcf1e95bebd697bd010bc766aac3", "22e7add93cfc6393c57ec0b3c17d6b44",
                "126735fcc320d25a"), "ca40d7446e545ffaed3bd12a740a659ffbbb3ceab7",
                "cb8920f87a6c75cff39627b56e3ed197c552d295a7cfc46afc253b4652b1af3795b124ab6e", 16);
    }

    private static void made() {
        vector(15, rows("fffefdfcfbfaf9f8f7f6f5f4f3f2f1f0f0f1f2f3f4f5f6f7f8f9fafbfcfdfeff", "",
                "101112131415161718191a1b1c1d1e1f2021222324252627"), "112233445566778899aabbccddee",
                "85632d07c6e8f37f950acd320a2ecc9340c02b9690c4dc04daef7f6afe5c", 16);
    }

    private static void offsets() {
        String start = "bbaa998877665544332211";
        vector(16, rows(UP_TO_15, start + "02", "0001020304050607"), "",
                "81017f8203f081277152fade694a0a00", 16);
        vector(16, rows(UP_TO_15, start + "03", ""), "0001020304050607",
                "45dd69f8f5aae72414054cd1f35d82760b2cd00d2f99bfa9", 16);
        vector(16, rows(UP_TO_15, start + "04", UP_TO_15), UP_TO_15,
                "571d535b60b277188be5147170a9a22c3ad7a4ff3835b8c5701c1ccec8fc3358", 16);
        String forty = UP_TO_15 + "101112131415161718191a1b1c1d1e1f2021222324252627";
        vector(16, rows("0f0e0d0c0b0a09080706050403020100", start + "0d", forty), forty,
                "1792a4e31e0755fb03e31b22116e6c2ddf9efd6e33d536f1a0124b0a55bae884ed93481529c76b6a"
                + "d0c515f4d1cdd4fdac4f02aa", 12);
    }

    private static void macs() {
        String[] sums = {"bb1d6929e95937287fa37d129b756746", "070a16b46b4d4144f79bdd9dd04a287c",
            "dfa66747de9ae63030ca32611497c827", "51f0bebf7e3b9d92fc49741779363cfe"};
        int[] sizes = {0, 16, 40, 64};
        for (int i = 0; i < sums.length; i++) {
            Subject x = new Subject();
            Check.set(x, Check.KEY, Check.octets(KEY_38A));
            Check.set(x, Check.DATA, Check.octets(TEXT_38A));
            x.cut(Check.DATA, sizes[i]);
            check.due("sum(1)", x.sum(1), 16);
            check.due("sum(1) of " + sizes[i], Check.out(x), Check.octets(sums[i]));
        }
    }
}
