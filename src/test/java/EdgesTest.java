/**
 * Each range that a promise names, by a test of its own: the numbers just inside it are taken, and
 * do what they should, and those just outside it are not.
 */
public final class EdgesTest {
    private static final int MIN = Integer.MIN_VALUE;
    private static final int MAX = Integer.MAX_VALUE;

    public static void main(String[] args) {
        placesOfTheKey();
        bytesOfTheKey();
        lengthsOfTheDigest();
        lengthsOfTheKey();
        bytesOfUpdate();
        countsOfUpdates();
        bytesOfFill();
        countsOfFill();
        placesOfOut();
        answersOfOut();
        placesOfWord();
        Checks.end();
    }

    private static void placesOfTheKey() {
        Checks.sentence("3: i 0 .. 31");
        KeyedDigest x = Checks.ready();
        Checks.due("setKeyByte(-1, 255)", x.setKeyByte(-1, 255), false);
        Checks.due("setKeyByte(32, 255)", x.setKeyByte(32, 255), false);
        Checks.due("the key is 0", abc(x, 32, 32),
                "4a33d50f22e524b07ac2d8e29557bc11810bf0d6e9c64451bc75681a5c05f329");
        Checks.due("setKeyByte(31, 255)", x.setKeyByte(31, 255), true);
        Checks.due("the last byte is 255", abc(x, 32, 32),
                "22c19ad87dca45025e8db565efd2001f44705b8f99dff811e69749ef32869831");
        Checks.due("setKeyByte(0, 255)", x.setKeyByte(0, 255), true);
        Checks.due("the first byte is 255", abc(x, 32, 1),
                "fbe07d71d4da4df63a578fe4d42455cdf246ba1f18410cbfe5887132bf295252");
    }

    private static void bytesOfTheKey() {
        Checks.sentence("3: b 0 .. 255");
        KeyedDigest x = Checks.ready();
        Checks.due("setKeyByte(0, 255)", x.setKeyByte(0, 255), true);
        Checks.due("setKeyByte(0, 256)", x.setKeyByte(0, 256), false);
        Checks.due("setKeyByte(0, -1)", x.setKeyByte(0, -1), false);
        Checks.due("the byte is 255", abc(x, 32, 1),
                "fbe07d71d4da4df63a578fe4d42455cdf246ba1f18410cbfe5887132bf295252");
        Checks.due("setKeyByte(0, 0)", x.setKeyByte(0, 0), true);
        Checks.due("setKeyByte(0, 256)", x.setKeyByte(0, 256), false);
        Checks.due("setKeyByte(0, -1)", x.setKeyByte(0, -1), false);
        Checks.due("the byte is 0", abc(x, 32, 1),
                "8a273cd57d48b272a6547652593f3c33ec69e3fb94fec9b59f2f21760ff62b4e");
    }

    private static void lengthsOfTheDigest() {
        Checks.sentence("4: nn 1 .. 32");
        KeyedDigest x = Checks.readyWithKeyFrom(1);
        Checks.due("start(0, 0)", x.start(0, 0), false);
        Checks.due("1 byte", abc(x, 1, 0), "0d");
        Checks.due("2 bytes", abc(x, 2, 0), "d8ce");
        Checks.due("31 bytes", abc(x, 31, 0),
                "6ffb901930ebaf1d3cabe0b60c20de3bc9dd26269325629f1671304fe6bb26");
        Checks.due("32 bytes", abc(x, 32, 0), Known.ABC);
        Checks.due("start(33, 0)", x.start(33, 0), false);
        Checks.due("1 byte with a key", abc(x, 1, 32), "c6");
    }

    private static void lengthsOfTheKey() {
        Checks.sentence("4: kk 0 .. 32");
        KeyedDigest x = Checks.readyWithKeyFrom(1);
        Checks.due("start(32, -1)", x.start(32, -1), false);
        Checks.due("no key", abc(x, 32, 0), Known.ABC);
        Checks.due("a key of 1 byte", abc(x, 32, 1),
                "cf4ef70bd09e3929fbe666696b3db1827a4f13370ac1c4ffc128e17aeaf23843");
        Checks.due("a key of 31 bytes", abc(x, 32, 31),
                "46f3c46f57ad856e271fa168a0ca48576b547fad9127d0ed5415062b20222864");
        Checks.due("a key of 32 bytes", abc(x, 32, 32),
                "6fd26d33674bb0e443533a92257bf2d0cd93bc00e286761af5a77b5a8135ecea");
        Checks.due("start(32, 33)", x.start(32, 33), false);
    }

    private static String abc(KeyedDigest x, int nn, int kk) {
        Checks.due("start(" + nn + ", " + kk + ")", x.start(nn, kk), true);
        Checks.due("updates of abc", x.updates(0x61626300, 0, 0, 0, 3), true);
        return Checks.finished(x, nn);
    }

    private static void bytesOfUpdate() {
        Checks.sentence("5: b 0 .. 255");
        updated(0, Known.BYTE_0);
        updated(1, "fc87f4f1d721942d282aa61989c069b290d1447d20d4b811430f47ea0edf9991");
        updated(254, "fa97b95e5b1ec1d39afddf550152668684d2bf86cac071e1cb834f0d3033a9e0");
        updated(255, Known.BYTE_255);
    }

    private static void updated(int b, String digest) {
        KeyedDigest x = Checks.open(32);
        Checks.due("update(-1)", x.update(-1), false);
        Checks.due("update(" + b + ")", x.update(b), true);
        Checks.due("update(256)", x.update(256), false);
        Checks.due("length", x.length(), 1);
        Checks.due("digest of the byte " + b, Checks.finished(x, 32), digest);
    }

    private static void countsOfUpdates() {
        Checks.sentence("6: the first n, n 1 .. 16");
        updatedBy(1, "4a0d129873403037c2cd9b9048203687f6233fb6738956e0349bd4320fec3e90");
        updatedBy(15, "f987bde38fd64779f7e9c38c98afd4e256b158dc7b183c638c13e2b3d196f6a5");
        updatedBy(16, "b6775fd68a7b03f177426a0ef1acef97ac070ae0d330bb462ebb529316a61cf7");
    }

    private static void updatedBy(int n, String digest) {
        KeyedDigest x = Checks.open(32);
        Checks.due("updates(.., 0)", x.updates(1, 2, 3, 4, 0), false);
        Checks.due("updates(.., " + n + ")",
                x.updates(0x61626364, 0x65666768, 0x696A6B6C, 0x6D6E6F70, n), true);
        Checks.due("updates(.., 17)", x.updates(1, 2, 3, 4, 17), false);
        Checks.due("length", x.length(), n);
        Checks.due("digest of " + n + " letters", Checks.finished(x, 32), digest);
    }

    private static void bytesOfFill() {
        Checks.sentence("7: b 0 .. 255");
        filled(0, 1, Known.BYTE_0);
        filled(255, 1, Known.BYTE_255);
    }

    private static void countsOfFill() {
        Checks.sentence("7: so many times, n 0 .. 10000");
        filled(255, 0, Known.EMPTY);
        filled(0, 9999, "6ef0ddcaa314f496779ffa6abc3bce45a7d5f7dd642ab335cee946629f2ef0fc");
        filled(0, 10000, "ece8429b179d2b3de759a3116d9f0ddcbdfc9482468c9091734ed7b04bfc9528");
        filled(255, 9999, "f004d0418293d5519f61d1ae4203d648c7c1ba1109fcce507f34916020cdfded");
        filled(255, 10000, "e32ec360ed491520b3cde38e30c2ef3ce938ab00a1a8d43b0d45b0713752edfe");
    }

    private static void filled(int b, int n, String digest) {
        KeyedDigest x = Checks.open(32);
        Checks.due("fill(-1, 1)", x.fill(-1, 1), false);
        Checks.due("fill(256, 1)", x.fill(256, 1), false);
        Checks.due("fill(" + b + ", -1)", x.fill(b, -1), false);
        Checks.due("fill(" + b + ", " + n + ")", x.fill(b, n), true);
        Checks.due("fill(" + b + ", 10001)", x.fill(b, 10001), false);
        Checks.due("length", x.length(), n);
        Checks.due("digest of " + n + " times " + b, Checks.finished(x, 32), digest);
    }

    private static void placesOfOut() {
        Checks.sentence("9: byte i of the digest, -1 if there is none");
        for (int nn = 1; nn <= 32; nn++) {
            KeyedDigest x = Checks.open(nn);
            x.finish();
            for (int i : new int[] {MIN, -nn, -1, nn, nn + 1, 32, 33, MAX}) {
                Checks.due("out(" + i + ") of " + nn, x.out(i), KeyedDigest.NONE);
            }
            int first = x.word(0) & 255;
            int last = x.word((nn - 1) / 4) >>> (nn - 1) % 4 * 8 & 255;
            Checks.due("out(0) of " + nn, x.out(0), first);
            Checks.due("out(" + (nn - 1) + ")", x.out(nn - 1), last);
        }
    }

    private static void answersOfOut() {
        Checks.sentence("9: a byte is 0 .. 255");
        KeyedDigest x = Checks.open(32);
        // hashlib's digest of these two bytes has both the lowest byte and the highest one.
        x.update(0);
        x.update(25);
        x.finish();
        Checks.due("out of the lowest byte", x.out(26), 0);
        Checks.due("out of the highest byte", x.out(11), 255);
    }

    private static void placesOfWord() {
        Checks.sentence("11: 0 if i is not 0 .. 7");
        for (Stage stage : Stage.values()) {
            KeyedDigest x = stage.make();
            for (int i : new int[] {MIN, -8, -1, 8, 9, 15, 16, MAX}) {
                Checks.due(stage + ": word(" + i + ")", x.word(i), 0);
            }
        }
        KeyedDigest x = Checks.open(32);
        Checks.due("word(0)", x.word(0), 0x6A09E667 ^ 0x01010020);
        Checks.due("word(7)", x.word(7), 0x5BE0CD19);
    }
}
