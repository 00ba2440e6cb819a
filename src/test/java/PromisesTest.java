/** Each promise by itself, with ordinary inputs; the other tests have its edges and refusals. */
public final class PromisesTest {
    private static final String IV_BEHIND_FIRST =
            " BB67AE85 3C6EF372 A54FF53A 510E527F 9B05688C 1F83D9AB 5BE0CD19";

    public static void main(String[] args) {
        newObject();
        init();
        setKeyByte();
        start();
        update();
        updates();
        fill();
        finish();
        out();
        length();
        word();
        wordOfEachBlock();
        Checks.end();
    }

    // Promise 1
    private static void newObject() {
        KeyedDigest x = new KeyedDigest();
        Checks.due("new: start", x.start(32, 0), false);
        Checks.due("new: length", x.length(), KeyedDigest.NONE);
    }

    // Promise 2
    private static void init() {
        KeyedDigest x = new KeyedDigest();
        x.init();
        Checks.due("init: length", x.length(), KeyedDigest.NONE);
        Checks.due("init: start", x.start(32, 32), true);
        Checks.due("init: the key is 0", Checks.finished(x, 32), Known.EMPTY_WITH_KEY_OF_0S);
    }

    // Promise 3
    private static void setKeyByte() {
        KeyedDigest x = Checks.readyWithKey();
        x.start(32, 32);
        Checks.due("the key 0 .. 31", Checks.finished(x, 32), Known.EMPTY_WITH_KEY);
        Checks.due("setKeyByte(31, 200)", x.setKeyByte(31, 200), true);
        Checks.due("setKeyByte(31, 31)", x.setKeyByte(31, 31), true);
        x.start(32, 32);
        Checks.due("the key 0 .. 31 again", Checks.finished(x, 32), Known.EMPTY_WITH_KEY);
    }

    // Promise 4
    private static void start() {
        KeyedDigest x = Checks.readyWithKey();
        for (int nn : new int[] {1, 16, 32}) {
            for (int kk : new int[] {0, 7, 32}) {
                Checks.due("start(" + nn + ", " + kk + ")", x.start(nn, kk), true);
                Checks.due("start: length", x.length(), 0);
                Checks.due("start: word(0)", x.word(0), 0x6A09E667 ^ 0x01010000 ^ kk << 8 ^ nn);
                Checks.due("start: update", x.update(0), true);
            }
        }
    }

    // Promise 5
    private static void update() {
        KeyedDigest x = Checks.open(32);
        for (int b : new int[] {'a', 'b', 'c'}) {
            Checks.due("update(" + b + ")", x.update(b), true);
        }
        Checks.due("update: abc", Checks.finished(x, 32), Known.ABC);

        KeyedDigest keyed = Checks.readyWithKey();
        keyed.start(32, 32);
        for (int b = 0; b < 255; b++) {
            Checks.due("update(" + b + ")", keyed.update(b), true);
        }
        Checks.due("update: 0 .. 254", Checks.finished(keyed, 32),
                "3fb735061abc519dfe979e54c1ee5bfad0a9d858b3315bad34bde999efd724dd");
    }

    // Promise 6
    private static void updates() {
        String[] digests = {
            "c87a3c5e9713fb44df5b0a3b4d6be3ef14ea581ee912950f6c73ea1c26d1d2c6",
            "2f7529f9c75508ff489f219fed48a41673b9d74f44399213cece7d0f88041427",
            "f4c52b6e94b7a58832f3ebdbaff4bf696dd296877d29073e2d51270616b1e43e",
            "f418d96922ce9fe2c874a82d47ffdb958edb9fa7d566c88f7838a75856f00514",
            "b8baa79fbc13620d0a010a9b189158ede8f8d2051bd90280fd3050ab8f80d450",
            "3e2d6c24eae60f07f632f0fe72f1c1ecad8a573cb44017c313512797c21d130b",
            "096c1c65cdf791ca877641a486d918f19a593caeace1ea055a5e29774e1fc65d",
            "0f6ae6c2f81c76396b003106473f01e2fffaea3eb5a25971c5baa85a9d08640a",
            "f15bd7b518284d0e8b745fe93738f203865e09879bd4205336c8172b6b292288",
            "3ba448e934e24f97e3e89308d45e4e2b19bad4e03d41ad3de3509206d52e8e7d",
            "9dd10696bc19e2c46d8472c8da22ced04e4443337df389ce6521633b8478b0a0",
            "683ad18381c8b1e75ff2bfcc4ed63022fca968e51c57060aa345e77f98153cf1",
            "75b5fb24c19e69c1fdb05cc66959924a5f68255c1f5fc39eb658e0ce145d41d0",
            "ca7315d75e3ad5b74c9adfc9924f20ea60d01765121b8fb0d3b466752d83cee8",
            "121ccc2bb5fb22863b96f76cf706ba75540132d08b6da350524d4694eea98911",
            "7e235d3ea247beafe9360356e722d26f5784f8e32dff50b4421d85eb26660f21"
        };
        for (int n = 1; n <= 16; n++) {
            KeyedDigest x = Checks.open(32);
            Checks.due("updates(.., " + n + ")",
                    x.updates(0x8142C304, 0x7F80FF00, 0xFEDCBA98, 0x010203F4, n), true);
            Checks.due("updates: length", x.length(), n);
            Checks.due("updates: digest of " + n, Checks.finished(x, 32), digests[n - 1]);
        }
    }

    // Promise 7
    private static void fill() {
        filled(0, 0, Known.EMPTY, Known.EMPTY_WITH_KEY);
        filled(255, 1, Known.BYTE_255,
                "a04c3fa8280cf1044202a3456bfbea943e69825d7286868bdf8a08589747cb91");
        filled(97, 63, "9a4267618070af968ff2a0fdaecc62b5c15ab91cb4a56424ba9fcad20aab417c",
                "b704ad1b67fdcd5a0bc37da1564e4131aec49b84e0f9e280c7eab412119611af");
        filled(97, 64, "651d2f5f20952eacaea2fba2f2af2bcd633e511ea2d2e4c9ae2ac0d9ffb7b252",
                "623b3dfdccfa5a9ed76162694fbf7729f60d79cce1a49e89e9af17e4be91d2ab");
        filled(97, 65, "045f8ae18932119bd051ac7ba5c73db59892055fad5c32f82d79a6543d92a497",
                "e345103e066b47f4fc4a1812d47a5479e024768a16f8c5ee17940dc74e71cc0a");
        filled(97, 127, "50424a14cfc0a3cdfcfafb0eed5b7731bfc401a05ccc93f16ed9757f1b7529f2",
                "ef030657aca14e42d440108c9c072afcde63188ab0bb460d90b990601e3a217e");
        filled(97, 128, "3ac477e27353f9019b81694afe60c8049403784f91a58288428ea318bfa82809",
                "3de034f0c91204e8d8ae83ee5efb7ac524b15acde656c0276193b1d34f365b1a");
        filled(97, 129, "94f03f8feba7e07dd91153d178bb2d254e8cfd445024a77071f9329200d9517c",
                "26b97c7d5551fe99715664a7290fccc174f8b5cb4767abc3b45a306287f307bb");
        filled(255, 10000, "e32ec360ed491520b3cde38e30c2ef3ce938ab00a1a8d43b0d45b0713752edfe",
                "78f07c2c9d8cf2f25ac750901565965cfb166cbdf86682e63812b01baff26e55");
    }

    private static void filled(int b, int n, String plain, String withKey) {
        KeyedDigest x = Checks.readyWithKey();
        String call = "fill(" + b + ", " + n + ")";
        x.start(32, 0);
        Checks.due(call, x.fill(b, n), true);
        Checks.due(call + ": length", x.length(), n);
        Checks.due(call + ": digest", Checks.finished(x, 32), plain);
        x.start(32, 32);
        Checks.due(call, x.fill(b, n), true);
        Checks.due(call + ": length with key", x.length(), n);
        Checks.due(call + ": digest with key", Checks.finished(x, 32), withKey);
    }

    // Promise 8
    private static void finish() {
        KeyedDigest x = Checks.open(32);
        Checks.due("finish", x.finish(), true);
        Checks.due("finish: digest", Checks.digest(x, 32), Known.EMPTY);
        x.start(32, 0);
        Checks.due("finish of the next one", x.finish(), true);
    }

    // Promise 9
    private static void out() {
        KeyedDigest x = Checks.open(20);
        x.updates(0x61626300, 0, 0, 0, 3);
        Checks.due("out: 20 bytes", Checks.finished(x, 20),
                "5ae3b99be29b01834c3b508521ede60438f8de17");
    }

    // Promise 10
    private static void length() {
        KeyedDigest x = Checks.readyWithKey();
        x.start(16, 32);
        x.update(1);
        x.updates(1, 2, 3, 4, 7);
        Checks.due("length of an open one", x.length(), 8);
        x.fill(0, 10000);
        x.finish();
        Checks.due("length of a finished one", x.length(), 10008);
    }

    // Promise 11
    private static void word() {
        KeyedDigest x = Checks.open(20);
        x.updates(0x61626300, 0, 0, 0, 3);
        x.finish();
        Checks.due("all words of a short digest", Checks.words(x),
                "9BB9E35A 83019BE2 85503B4C 04E6ED21 17DEF838 10D3F9C2 56B8BF78 E01637FF");
    }

    private static void wordOfEachBlock() {
        String first = "DAA085A2 B24207C6 04D246F1 28B31589 C3F8E658 0517D1FA DEC3EBC2 4B2151C1";
        KeyedDigest x = Checks.open(32);
        x.fill('a', 64);
        Checks.due("words: a full block waits", Checks.words(x), "6B08E647" + IV_BEHIND_FIRST);
        x.fill('a', 0);
        Checks.due("words: no byte behind it", Checks.words(x), "6B08E647" + IV_BEHIND_FIRST);
        x.update('a');
        Checks.due("words: a byte behind it", Checks.words(x), first);
        x.fill('a', 63);
        Checks.due("words: the second block waits", Checks.words(x), first);
        x.updates(0x61000000, 0, 0, 0, 1);
        Checks.due("words: a byte behind that", Checks.words(x),
                "BB5740DF 8A26A085 2B6056DE 3E7D7B45 B50C0126 0199F8E8 59D07474 8BF70FBA");

        KeyedDigest keyed = Checks.readyWithKey();
        keyed.start(20, 7);
        Checks.due("words: the key waits", Checks.words(keyed), "6B08E173" + IV_BEHIND_FIRST);
        keyed.update('a');
        Checks.due("words: the key is mixed in", Checks.words(keyed),
                "0C13378E 2D65739A C73DB3A4 4CDA57D4 B52EF173 EDFB55D2 634EC703 FB855BE8");
    }
}
