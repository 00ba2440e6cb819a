/** Each promise by itself: ordinary inputs, the edges that the document names, wrong inputs. */
public final class PromisesTest {
    private static final int MIN = Integer.MIN_VALUE;
    private static final int MAX = Integer.MAX_VALUE;

    private static final String EMPTY =
            "69217a3079908094e11121d042354a7c1f55b6482ca1a51e1b250dfd1ed0eef9";
    private static final String ABC =
            "508c5e8c327c14e2e1a72ba34eeb452f37458b209ed63a294d999b4c86675982";
    private static final String EMPTY_WITH_KEY =
            "48a8997da407876b3d79c0d92325ad3b89cbb754d86ab71aee047ad345fd2c49";
    private static final String IV_BEHIND_FIRST =
            " BB67AE85 3C6EF372 A54FF53A 510E527F 9B05688C 1F83D9AB 5BE0CD19";
    private static final String NO_WORDS =
            "00000000 00000000 00000000 00000000 00000000 00000000 00000000 00000000";

    public static void main(String[] args) {
        newObject();
        init();
        setKeyByte();
        setKeyByteRefused();
        start();
        startRefused();
        startInPlaceOfAnother();
        update();
        updates();
        updatesRefused();
        fill();
        fillRefused();
        finish();
        out();
        length();
        word();
        wordOfEachBlock();
        Checks.end();
    }

    // Promise 1
    private static void newObject() {
        KeyedDigest x = new KeyedDigest();
        Checks.due("new: start", x.start(32, 0), false);
        Checks.due("new: start with a key", x.start(1, 32), false);
        nothingIsThere("new", x);
        Checks.due("new: setKeyByte", x.setKeyByte(0, 1), true);
        Checks.due("new: setKeyByte(32, 1)", x.setKeyByte(32, 1), false);
        Checks.due("new: setKeyByte(0, 256)", x.setKeyByte(0, 256), false);
        Checks.due("new: start behind setKeyByte", x.start(32, 0), false);
    }

    private static void nothingIsThere(String when, KeyedDigest x) {
        Checks.due(when + ": update", x.update(1), false);
        Checks.due(when + ": updates", x.updates(1, 2, 3, 4, 16), false);
        Checks.due(when + ": fill", x.fill(1, 1), false);
        Checks.due(when + ": fill of none", x.fill(1, 0), false);
        Checks.due(when + ": finish", x.finish(), false);
        Checks.due(when + ": out(0)", x.out(0), KeyedDigest.NONE);
        Checks.due(when + ": length", x.length(), KeyedDigest.NONE);
        Checks.due(when + ": words", Checks.words(x), NO_WORDS);
    }

    // Promise 2
    private static void init() {
        nothingIsThere("init", Checks.ready());

        KeyedDigest keyed = new KeyedDigest();
        for (int i = 0; i < 32; i++) {
            keyed.setKeyByte(i, 255);
        }
        keyed.init();
        keyed.start(32, 32);
        KeyedDigest zeros = Checks.ready();
        zeros.start(32, 32);
        String ofZeros = Checks.finished(zeros, 32);
        Checks.due("init: key of 0s", ofZeros,
                "cc8ed046995def3f21db6abcfe34c3526960be9dd3270ed1ab7cfc7f29ad4bd6");
        Checks.due("init: the key is 0 again", Checks.finished(keyed, 32), ofZeros);

        keyed.init();
        nothingIsThere("init behind a finished one", keyed);
        keyed.start(32, 0);
        keyed.update(7);
        keyed.init();
        nothingIsThere("init behind an open one", keyed);
        Checks.due("init: the key may be set", keyed.setKeyByte(0, 0), true);
        keyed.start(32, 0);
        Checks.due("init: nothing is left", Checks.finished(keyed, 32), EMPTY);
    }

    // Promise 3
    private static void setKeyByte() {
        KeyedDigest x = Checks.readyWithKey();
        x.start(32, 32);
        Checks.due("the key 0 .. 31", Checks.finished(x, 32), EMPTY_WITH_KEY);
        Checks.due("setKeyByte behind finish", x.setKeyByte(31, 255), true);
        Checks.due("setKeyByte keeps the digest", Checks.digest(x, 32), EMPTY_WITH_KEY);
        Checks.due("setKeyByte, lowest", x.setKeyByte(0, 0), true);
        Checks.due("setKeyByte, again", x.setKeyByte(31, 31), true);
        x.start(32, 32);
        Checks.due("the key 0 .. 31 again", Checks.finished(x, 32), EMPTY_WITH_KEY);
    }

    private static void setKeyByteRefused() {
        KeyedDigest x = Checks.readyWithKey();
        refusedKeyBytes(x);
        x.start(32, 32);
        for (int i = 0; i < 32; i++) {
            Checks.due("setKeyByte while open", x.setKeyByte(i, 200), false);
        }
        refusedKeyBytes(x);
        Checks.due("the key stayed for the open one", Checks.finished(x, 32), EMPTY_WITH_KEY);
        refusedKeyBytes(x);
        x.start(32, 32);
        Checks.due("the key stayed for the next one", Checks.finished(x, 32), EMPTY_WITH_KEY);
    }

    private static void refusedKeyBytes(KeyedDigest x) {
        for (int i : new int[] {MIN, -1, 32, 33, 64, MAX}) {
            Checks.due("setKeyByte(" + i + ", 9)", x.setKeyByte(i, 9), false);
        }
        for (int b : new int[] {MIN, -1, 256, 257, MAX}) {
            Checks.due("setKeyByte(3, " + b + ")", x.setKeyByte(3, b), false);
        }
    }

    // Promise 4
    private static void start() {
        KeyedDigest x = Checks.readyWithKey();
        for (int nn : new int[] {1, 2, 31, 32}) {
            for (int kk : new int[] {0, 1, 31, 32}) {
                Checks.due("start(" + nn + ", " + kk + ")", x.start(nn, kk), true);
                Checks.due("start: length", x.length(), 0);
                Checks.due("start: word(0)", x.word(0), 0x6A09E667 ^ 0x01010000 ^ kk << 8 ^ nn);
                Checks.due("start: update", x.update(0), true);
            }
        }
    }

    private static void startRefused() {
        KeyedDigest x = Checks.ready();
        refusedStarts(x);
        nothingIsThere("refused start", x);
        x.start(32, 0);
        x.update('a');
        refusedStarts(x);
        Checks.due("the open one stays", x.length(), 1);
        x.update('b');
        x.update('c');
        Checks.due("the open one goes on", Checks.finished(x, 32), ABC);
        refusedStarts(x);
        Checks.due("the finished one stays", Checks.digest(x, 32), ABC);
        Checks.due("its length stays", x.length(), 3);
    }

    private static void refusedStarts(KeyedDigest x) {
        for (int nn : new int[] {MIN, -1, 0, 33, 256, MAX}) {
            Checks.due("start(" + nn + ", 0)", x.start(nn, 0), false);
            Checks.due("start(" + nn + ", 32)", x.start(nn, 32), false);
        }
        for (int kk : new int[] {MIN, -1, 33, 64, MAX}) {
            Checks.due("start(1, " + kk + ")", x.start(1, kk), false);
            Checks.due("start(32, " + kk + ")", x.start(32, kk), false);
        }
    }

    private static void startInPlaceOfAnother() {
        KeyedDigest x = Checks.readyWithKey();
        x.start(8, 5);
        x.fill(255, 200);
        Checks.due("start in place of an open one", x.start(32, 0), true);
        Checks.due("its length", x.length(), 0);
        Checks.due("its words", Checks.words(x), "6B08E647" + IV_BEHIND_FIRST);
        Checks.due("its out", x.out(0), KeyedDigest.NONE);
        x.updates(0x61626300, 0, 0, 0, 3);
        Checks.due("nothing of the other one", Checks.finished(x, 32), ABC);
        Checks.due("start behind a finished one", x.start(32, 32), true);
        Checks.due("the digest is gone", x.out(0), KeyedDigest.NONE);
        Checks.due("nothing of the finished one", Checks.finished(x, 32), EMPTY_WITH_KEY);
    }

    // Promise 5
    private static void update() {
        KeyedDigest x = Checks.open(32);
        for (int b : new int[] {'a', 'b', 'c'}) {
            Checks.due("update(" + b + ")", x.update(b), true);
            for (int no : new int[] {MIN, -1, 256, 353, MAX}) {
                Checks.due("update(" + no + ")", x.update(no), false);
            }
        }
        Checks.due("update: length", x.length(), 3);
        Checks.due("update: abc", Checks.finished(x, 32), ABC);
        Checks.due("update behind finish", x.update(1), false);
        Checks.due("update behind finish: length", x.length(), 3);
        Checks.due("update behind finish: digest", Checks.digest(x, 32), ABC);

        KeyedDigest edges = Checks.readyWithKey();
        edges.start(32, 32);
        for (int b = 0; b < 255; b++) {
            Checks.due("update(" + b + ")", edges.update(b), true);
        }
        Checks.due("update: 0 .. 254", Checks.finished(edges, 32),
                "3fb735061abc519dfe979e54c1ee5bfad0a9d858b3315bad34bde999efd724dd");
        edges.start(32, 0);
        Checks.due("update(255)", edges.update(255), true);
        Checks.due("update: 255", Checks.finished(edges, 32),
                "8a1ef126b4e286703744a80b2f414be700cc93023e7bfc8688b79b54931abd27");
    }

    // Promise 6
    private static void updates() {
        String[] digests = {
            "c87a3c5e9713fb44df5b0a3b4d6be3ef14ea581ee912950f6c73ea1c26d1d2c6",
            "2f7529f9c75508ff489f219fed48a41673b9d74f44399213cece7d0f88041427",
            "f4c52b6e94b7a58832f3ebdbaff4bf696dd296877d29073e2d51270616b1e43e",
            "f418d96922ce9fe2c874a82d47ffdb958edb9fa7d566c88f7838a75856f00514",
            "b8baa79fbc13620d0a010a9b189158ede8f8d2051bd90280fd3050ab8f80d450",
            "3e2d6c24eae60f07f632f0fe72f1c1ecad8a573cb44017c313512797c21d130b",
            "096c1c65cdf791ca877641a486d918f19a593caeace1ea055a5e29774e1fc65d",
            "0f6ae6c2f81c76396b003106473f01e2fffaea3eb5a25971c5baa85a9d08640a",
            "f15bd7b518284d0e8b745fe93738f203865e09879bd4205336c8172b6b292288",
            "3ba448e934e24f97e3e89308d45e4e2b19bad4e03d41ad3de3509206d52e8e7d",
            "9dd10696bc19e2c46d8472c8da22ced04e4443337df389ce6521633b8478b0a0",
            "683ad18381c8b1e75ff2bfcc4ed63022fca968e51c57060aa345e77f98153cf1",
            "75b5fb24c19e69c1fdb05cc66959924a5f68255c1f5fc39eb658e0ce145d41d0",
            "ca7315d75e3ad5b74c9adfc9924f20ea60d01765121b8fb0d3b466752d83cee8",
            "121ccc2bb5fb22863b96f76cf706ba75540132d08b6da350524d4694eea98911",
            "7e235d3ea247beafe9360356e722d26f5784f8e32dff50b4421d85eb26660f21"
        };
        for (int n = 1; n <= 16; n++) {
            KeyedDigest x = Checks.open(32);
            Checks.due("updates(.., " + n + ")",
                    x.updates(0x8142C304, 0x7F80FF00, 0xFEDCBA98, 0x010203F4, n), true);
            Checks.due("updates: length", x.length(), n);
            Checks.due("updates: digest of " + n, Checks.finished(x, 32), digests[n - 1]);
        }
    }

    private static void updatesRefused() {
        KeyedDigest x = Checks.open(32);
        for (int n : new int[] {MIN, -1, 0, 17, 32, MAX}) {
            Checks.due("updates(.., " + n + ")", x.updates(1, 2, 3, 4, n), false);
        }
        Checks.due("updates refused: length", x.length(), 0);
        Checks.due("updates refused: digest", Checks.finished(x, 32), EMPTY);
        Checks.due("updates behind finish", x.updates(1, 2, 3, 4, 16), false);
        Checks.due("updates behind finish: length", x.length(), 0);
        Checks.due("updates behind finish: digest", Checks.digest(x, 32), EMPTY);
    }

    // Promise 7
    private static void fill() {
        filled(0, 0, EMPTY, EMPTY_WITH_KEY);
        filled(255, 1, "8a1ef126b4e286703744a80b2f414be700cc93023e7bfc8688b79b54931abd27",
                "a04c3fa8280cf1044202a3456bfbea943e69825d7286868bdf8a08589747cb91");
        filled(97, 63, "9a4267618070af968ff2a0fdaecc62b5c15ab91cb4a56424ba9fcad20aab417c",
                "b704ad1b67fdcd5a0bc37da1564e4131aec49b84e0f9e280c7eab412119611af");
        filled(97, 64, "651d2f5f20952eacaea2fba2f2af2bcd633e511ea2d2e4c9ae2ac0d9ffb7b252",
                "623b3dfdccfa5a9ed76162694fbf7729f60d79cce1a49e89e9af17e4be91d2ab");
        filled(97, 65, "045f8ae18932119bd051ac7ba5c73db59892055fad5c32f82d79a6543d92a497",
                "e345103e066b47f4fc4a1812d47a5479e024768a16f8c5ee17940dc74e71cc0a");
        filled(97, 127, "50424a14cfc0a3cdfcfafb0eed5b7731bfc401a05ccc93f16ed9757f1b7529f2",
                "ef030657aca14e42d440108c9c072afcde63188ab0bb460d90b990601e3a217e");
        filled(97, 128, "3ac477e27353f9019b81694afe60c8049403784f91a58288428ea318bfa82809",
                "3de034f0c91204e8d8ae83ee5efb7ac524b15acde656c0276193b1d34f365b1a");
        filled(97, 129, "94f03f8feba7e07dd91153d178bb2d254e8cfd445024a77071f9329200d9517c",
                "26b97c7d5551fe99715664a7290fccc174f8b5cb4767abc3b45a306287f307bb");
        filled(255, 10000, "e32ec360ed491520b3cde38e30c2ef3ce938ab00a1a8d43b0d45b0713752edfe",
                "78f07c2c9d8cf2f25ac750901565965cfb166cbdf86682e63812b01baff26e55");
    }

    private static void filled(int b, int n, String plain, String withKey) {
        KeyedDigest x = Checks.readyWithKey();
        String call = "fill(" + b + ", " + n + ")";
        x.start(32, 0);
        Checks.due(call, x.fill(b, n), true);
        Checks.due(call + ": length", x.length(), n);
        Checks.due(call + ": digest", Checks.finished(x, 32), plain);
        x.start(32, 32);
        Checks.due(call, x.fill(b, n), true);
        Checks.due(call + ": length with key", x.length(), n);
        Checks.due(call + ": digest with key", Checks.finished(x, 32), withKey);
    }

    private static void fillRefused() {
        KeyedDigest x = Checks.open(32);
        for (int n : new int[] {MIN, -1, 10001, MAX}) {
            Checks.due("fill(1, " + n + ")", x.fill(1, n), false);
        }
        for (int b : new int[] {MIN, -1, 256, MAX}) {
            Checks.due("fill(" + b + ", 1)", x.fill(b, 1), false);
            Checks.due("fill(" + b + ", 0)", x.fill(b, 0), false);
        }
        Checks.due("fill refused: length", x.length(), 0);
        Checks.due("fill refused: digest", Checks.finished(x, 32), EMPTY);
        Checks.due("fill behind finish", x.fill(1, 1), false);
        Checks.due("fill of none behind finish", x.fill(1, 0), false);
        Checks.due("fill behind finish: digest", Checks.digest(x, 32), EMPTY);
    }

    // Promise 8
    private static void finish() {
        KeyedDigest x = Checks.open(32);
        Checks.due("finish", x.finish(), true);
        Checks.due("finish: digest", Checks.digest(x, 32), EMPTY);
        Checks.due("finish again", x.finish(), false);
        Checks.due("finish again: digest", Checks.digest(x, 32), EMPTY);
        x.start(32, 0);
        Checks.due("finish of the next one", x.finish(), true);
        x.init();
        Checks.due("finish behind init", x.finish(), false);
    }

    // Promise 9
    private static void out() {
        KeyedDigest x = Checks.open(20);
        x.updates(0x61626300, 0, 0, 0, 3);
        Checks.due("out while open", x.out(0), KeyedDigest.NONE);
        Checks.due("out: 20 bytes", Checks.finished(x, 20),
                "5ae3b99be29b01834c3b508521ede60438f8de17");
        for (int i : new int[] {MIN, -1, 20, 21, 31, 32, MAX}) {
            Checks.due("out(" + i + ") of 20", x.out(i), KeyedDigest.NONE);
        }
        x.start(1, 0);
        Checks.due("out behind start", x.out(0), KeyedDigest.NONE);
        x.updates(0x61626300, 0, 0, 0, 3);
        Checks.due("out: 1 byte", Checks.finished(x, 1), "0d");
        Checks.due("out(1) of 1", x.out(1), KeyedDigest.NONE);
        x.start(32, 0);
        x.updates(0x61626300, 0, 0, 0, 3);
        Checks.due("out: 32 bytes", Checks.finished(x, 32), ABC);
        Checks.due("out: the same again", Checks.digest(x, 32), ABC);
        Checks.due("out(32) of 32", x.out(32), KeyedDigest.NONE);
        x.init();
        Checks.due("out behind init", x.out(0), KeyedDigest.NONE);
    }

    // Promise 10
    private static void length() {
        KeyedDigest x = Checks.readyWithKey();
        x.start(16, 32);
        Checks.due("length: the key is not counted", x.length(), 0);
        x.update(1);
        Checks.due("length behind update", x.length(), 1);
        x.updates(1, 2, 3, 4, 7);
        Checks.due("length behind updates", x.length(), 8);
        x.fill(0, 0);
        Checks.due("length behind fill of none", x.length(), 8);
        x.fill(0, 10000);
        Checks.due("length behind fill", x.length(), 10008);
        x.finish();
        Checks.due("length behind finish", x.length(), 10008);
        x.start(16, 0);
        Checks.due("length behind start", x.length(), 0);
        x.finish();
        Checks.due("length of none, finished", x.length(), 0);
        x.init();
        Checks.due("length behind init", x.length(), KeyedDigest.NONE);
    }

    // Promise 11
    private static void word() {
        KeyedDigest x = Checks.open(20);
        x.updates(0x61626300, 0, 0, 0, 3);
        noSuchWord(x);
        x.finish();
        Checks.due("all words of a short digest", Checks.words(x),
                "9BB9E35A 83019BE2 85503B4C 04E6ED21 17DEF838 10D3F9C2 56B8BF78 E01637FF");
        noSuchWord(x);
        x.init();
        Checks.due("words behind init", Checks.words(x), NO_WORDS);
        noSuchWord(x);
    }

    private static void noSuchWord(KeyedDigest x) {
        for (int i : new int[] {MIN, -1, 8, 9, 16, MAX}) {
            Checks.due("word(" + i + ")", x.word(i), 0);
        }
    }

    private static void wordOfEachBlock() {
        String first = "DAA085A2 B24207C6 04D246F1 28B31589 C3F8E658 0517D1FA DEC3EBC2 4B2151C1";
        KeyedDigest x = Checks.open(32);
        x.fill('a', 64);
        Checks.due("words: a full block waits", Checks.words(x), "6B08E647" + IV_BEHIND_FIRST);
        x.fill('a', 0);
        Checks.due("words: no byte behind it", Checks.words(x), "6B08E647" + IV_BEHIND_FIRST);
        x.update('a');
        Checks.due("words: a byte behind it", Checks.words(x), first);
        x.fill('a', 63);
        Checks.due("words: the second block waits", Checks.words(x), first);
        x.updates(0x61000000, 0, 0, 0, 1);
        Checks.due("words: a byte behind that", Checks.words(x),
                "BB5740DF 8A26A085 2B6056DE 3E7D7B45 B50C0126 0199F8E8 59D07474 8BF70FBA");

        KeyedDigest keyed = Checks.readyWithKey();
        keyed.start(20, 7);
        Checks.due("words: the key waits", Checks.words(keyed), "6B08E173" + IV_BEHIND_FIRST);
        keyed.update('a');
        Checks.due("words: the key is mixed in", Checks.words(keyed),
                "0C13378E 2D65739A C73DB3A4 4CDA57D4 B52EF173 EDFB55D2 634EC703 FB855BE8");
    }
}
