/** Each sentence of the document's Terms that names a boundary case, by a test of its own. */
public final class BlocksTest {
    private static final int[] IV = {
        0x6A09E667, 0xBB67AE85, 0x3C6EF372, 0xA54FF53A,
        0x510E527F, 0x9B05688C, 0x1F83D9AB, 0x5BE0CD19
    };
    private static final int[] LENGTHS = {0, 1, 63, 64, 65, 127, 128, 129};

    public static void main(String[] args) {
        wordsGoRound();
        lowestByteFirst();
        startedWords();
        firstBytesOfTheKey();
        noKeyNoBlock();
        blockWaits();
        blockWaitsForEachCall();
        keyBlockWaits();
        noByteAtAll();
        noByteBehindTheKey();
        fullBlocksFinished();
        zerosThatFill();
        zerosOfTheMessage();
        keyCountsAs64();
        onlyTheLastOneTurned();
        digestIsTheBeginning();
        Checks.end();
    }

    private static void wordsGoRound() {
        Checks.sentence("words of 32 bits that go round");
        KeyedDigest x = Checks.open(32);
        x.fill(255, 10000);
        Checks.due("every word of the message is the highest", Checks.finished(x, 32),
                "e32ec360ed491520b3cde38e30c2ef3ce938ab00a1a8d43b0d45b0713752edfe");
        Checks.due("a word above 7FFFFFFF", x.word(7), 0xFEED5237);
        Checks.due("a word below 80000000", x.word(1), 0x201549ED);
    }

    private static void lowestByteFirst() {
        Checks.sentence("bytes of words have the lowest first");
        KeyedDigest x = Checks.open(32);
        x.updates(0x61626300, 0, 0, 0, 3);
        x.finish();
        for (int i = 0; i < 32; i++) {
            Checks.due("out(" + i + ")", x.out(i), x.word(i / 4) >>> i % 4 * 8 & 255);
        }
        Checks.due("out(0) of abc", x.out(0), 0x50);
        Checks.due("word(0) of abc", x.word(0), 0x8C5E8C50);
    }

    private static void startedWords() {
        Checks.sentence("h are the IV, the first one xor 01010000 and 256 kk and nn");
        for (int nn = 1; nn <= 32; nn++) {
            KeyedDigest x = Checks.readyWithKeyFrom(1);
            for (int kk = 0; kk <= 32; kk++) {
                Checks.due("start(" + nn + ", " + kk + ")", x.start(nn, kk), true);
                Checks.due("its words", Checks.words(x), started(nn, kk));
            }
        }
    }

    private static String started(int nn, int kk) {
        int[] h = IV.clone();
        h[0] ^= 0x01010000 + 256 * kk + nn;
        return Checks.words(h);
    }

    private static void firstBytesOfTheKey() {
        Checks.sentence("the key, its first kk bytes, then 0s");
        for (int kk = 1; kk <= 32; kk++) {
            KeyedDigest shorter = Checks.ready();
            KeyedDigest longer = Checks.readyWithKeyFrom(200);
            for (int i = 0; i < kk; i++) {
                shorter.setKeyByte(i, 200 + i);
            }
            String same = opened(shorter, kk, 1);
            Checks.due("bytes behind the first " + kk, opened(longer, kk, 1), same);
            longer.finish();
            Checks.due("setKeyByte", longer.setKeyByte(kk - 1, 7), true);
            Checks.due("byte " + kk + " counts", !opened(longer, kk, 1).equals(same), true);
        }
    }

    /** The words of h when the key's block has been mixed in. */
    private static String opened(KeyedDigest x, int kk, int b) {
        Checks.due("start(32, " + kk + ")", x.start(32, kk), true);
        Checks.due("update(" + b + ")", x.update(b), true);
        return Checks.words(x);
    }

    private static void noKeyNoBlock() {
        Checks.sentence("with kk above 0 the first block is the key");
        KeyedDigest x = Checks.readyWithKeyFrom(1);
        Checks.due("no block of the key", opened(x, 0, 'a'), started(32, 0));
        Checks.due("digest without it", Checks.finished(x, 32),
                "4a0d129873403037c2cd9b9048203687f6233fb6738956e0349bd4320fec3e90");
        Checks.due("a key of a byte has one", !opened(x, 1, 'a').equals(started(32, 1)), true);
    }

    private static void blockWaits() {
        Checks.sentence("a block is mixed in when more bytes come behind it");
        KeyedDigest x = Checks.open(32);
        Model model = opened(32, 0);
        int before = x.word(0);
        for (int n = 1; n <= 194; n++) {
            Checks.due("update " + n, x.update(n), model.update(n));
            int behind = x.word(0);
            Checks.due("mixed in by byte " + n, behind != before, n > 1 && n % 64 == 1);
            Checks.due("word(0) behind byte " + n, behind, model.word(0));
            before = behind;
        }
    }

    private static Model opened(int nn, int kk) {
        Model model = new Model();
        model.init();
        for (int i = 0; i < 32; i++) {
            model.setKeyByte(i, 1 + i);
        }
        model.start(nn, kk);
        return model;
    }

    // Each call that adds bytes may end before a block's end, at it, or behind it.
    private static void blockWaitsForEachCall() {
        Checks.sentence("a block is mixed in when more bytes come behind it, by each call");
        for (int before = 47; before <= 64; before++) {
            for (int n = 0; n <= 16; n++) {
                KeyedDigest filled = filled(before);
                Checks.due("fill(9, " + n + ")", filled.fill(9, n), true);
                wordsBehind("fill", filled, before, n);
                KeyedDigest updated = filled(before);
                Checks.due("updates(.., " + n + ")",
                        updated.updates(0x09090909, 0x09090909, 0x09090909, 0x09090909, n), n > 0);
                wordsBehind("updates", updated, before, n);
            }
        }
    }

    private static KeyedDigest filled(int n) {
        KeyedDigest x = Checks.open(32);
        Checks.due("fill(5, " + n + ")", x.fill(5, n), true);
        return x;
    }

    private static void wordsBehind(String call, KeyedDigest x, int before, int n) {
        String at = call + " of " + n + " behind " + before;
        Model model = opened(32, 0);
        model.fill(5, before);
        model.fill(9, n);
        Checks.due(at + ": mixed in", !Checks.words(x).equals(started(32, 0)), before + n > 64);
        Checks.due(at + ": words", Checks.words(x), model.words());
        model.finish();
        Checks.due(at + ": finish", x.finish(), true);
        Checks.due(at + ": words at its end", Checks.words(x), model.words());
    }

    private static void keyBlockWaits() {
        Checks.sentence("the block of the key is mixed in when more bytes come behind it");
        for (int kk : new int[] {1, 31, 32}) {
            KeyedDigest x = Checks.readyWithKeyFrom(1);
            Model model = opened(32, kk);
            x.start(32, kk);
            Checks.due("it waits", Checks.words(x), started(32, kk));
            x.fill(9, 0);
            Checks.due("it waits behind no byte", Checks.words(x), started(32, kk));
            x.update(9);
            model.update(9);
            Checks.due("mixed in", !Checks.words(x).equals(started(32, kk)), true);
            Checks.due("its words", Checks.words(x), model.words());
            x.fill(9, 63);
            Checks.due("the message's first block waits", Checks.words(x), model.words());
        }
    }

    private static void noByteAtAll() {
        Checks.sentence("the last one all 0s, if there is no byte at all");
        KeyedDigest x = Checks.open(32);
        Checks.due("no call", Checks.finished(x, 32), Known.EMPTY);
        x.start(32, 0);
        x.fill(255, 0);
        Checks.due("fill of none", Checks.finished(x, 32), Known.EMPTY);
        x.start(32, 0);
        x.fill(255, 200);
        x.start(32, 0);
        Checks.due("behind another one's bytes", Checks.finished(x, 32), Known.EMPTY);
        x.start(1, 0);
        Checks.due("a digest of 1 byte", Checks.finished(x, 1), "a1");
    }

    private static void noByteBehindTheKey() {
        Checks.sentence("the last one when it is finished: the block of the key, if it is alone");
        KeyedDigest x = Checks.readyWithKey();
        x.start(32, 32);
        Checks.due("no byte behind the key", Checks.finished(x, 32), Known.EMPTY_WITH_KEY);
        KeyedDigest zeros = Checks.ready();
        zeros.start(32, 32);
        Checks.due("behind a key of 0s", Checks.finished(zeros, 32), Known.EMPTY_WITH_KEY_OF_0S);
    }

    private static void fullBlocksFinished() {
        Checks.sentence("the last one when it is finished, with and without a byte behind a block");
        digestsOfLengths(0,
                Known.EMPTY,
                "a28ac19d6bcbe2cd1d7de183485768d598e996b07889b9b11f418cb1b4a4fb0d",
                "de27df0e375d83c49f1af9ca8270f9f2fe7b70bf800fc01672db0e9746021ebf",
                "5377e4ff957bda4d4535f4879876b71a61056c4cec31e78397c66ec47a86a130",
                "19b1b26fba093f4a670d8913e1b71cbb2916dfa701018cc6b05785c966593374",
                "6846f99493436241d0a6f289c9a911b1d0f4860db8f2b5df5295ffd37d03a3c4",
                "83470c75afa23d90cd7659906e4b47daa278131fbb225241dd37a40fd5355ac7",
                "26fd8892ab0a5f12d4acbff1efd7dcd92b99e2d377f888f07e3cb81b232b11cf");
    }

    private static void keyCountsAs64() {
        Checks.sentence("how many bytes came with it and before, the block of the key 64");
        digestsOfLengths(1,
                "29f9691fe445d12f36b171eb231c99a00f62c0ba9c618b5ab67535c24eab67fe",
                "871ef1601ce9db2cb4b275be0b96da969e21945732819226e2b35711aa8053a6",
                "c736187013cd387311b6b50cb042930fa1b3991b02e437387dde825399cbd2b9",
                "ace4813dcd493e3985a24ea588b0253d6b9986b9a0f7a8666004bda7f1340f35",
                "349e8d5d91868de47d7d822b9cb60ec43183f26192449b0425b5372df93339d2",
                "ef46a9ddf5382f64ad50149c5abc0d3f612109fe483a4f6b71089fc475118902",
                "93bcd9d2f9999dbf02d68d5f95f0b6ad0e6d6bb54be552fd565a8c44e394af06",
                "1ef31974f0a8ae580953ae2d846d9a0287caf5b2f05732087dda0eec5df8aab7");
        digestsOfLengths(32,
                "f4825375fde3a8fca14cb1d1ec3fb9da1ec59b065bbc8bc600f6f9e27b6dfc0c",
                "dcd64d9f54eb8aa4d6e6027c4b9da4494e2e1d1da7b11895c3ee55770b0f2280",
                "3072ceb4af0ce274b11427c33ca04d572df9e79f57a68e4f77084746fa469d62",
                "5fb78738b69f603879e2c5b4d8ffc56856dec3087812d3fdefbd766070581d6b",
                "7fae8116c36193f6d5d07d53ed7d43f8492f619fc998307d8416b78772660f89",
                "9320688530fa4f7ecd3ed180a36bdd1e9fb18b056708d331995cf48248c53b41",
                "b2570c5ee41600c0959aef78329f37a3b17f9cf68b20ca7fac0224ba78dd511d",
                "6c7fe0e502ed7e63bce9d734f69a762a38c52060c14cfda9b5625cdfc524c008");
    }

    // hashlib's digests of messages of LENGTHS bytes, with the first kk bytes of the key 1 .. 32.
    private static void digestsOfLengths(int kk, String... digests) {
        for (int at = 0; at < LENGTHS.length; at++) {
            byte[] row = new byte[LENGTHS[at]];
            for (int i = 0; i < row.length; i++) {
                row[i] = (byte) (7 * i + 3);
            }
            String name = row.length + " bytes, a key of " + kk;
            KeyedDigest bySixteens = Checks.readyWithKeyFrom(1);
            bySixteens.start(32, kk);
            Checks.add(bySixteens, row);
            Checks.due(name, Checks.finished(bySixteens, 32), digests[at]);
            KeyedDigest byteByByte = Checks.readyWithKeyFrom(1);
            byteByByte.start(32, kk);
            for (byte b : row) {
                byteByByte.update(b & 255);
            }
            Checks.due(name + ", byte by byte", Checks.finished(byteByByte, 32), digests[at]);
        }
    }

    private static void zerosThatFill() {
        Checks.sentence("the last one filled with 0s");
        KeyedDigest x = Checks.open(32);
        x.fill(255, 64);
        x.start(32, 0);
        x.update('a');
        Checks.due("behind another one's full block", Checks.finished(x, 32),
                "4a0d129873403037c2cd9b9048203687f6233fb6738956e0349bd4320fec3e90");
        x.start(32, 0);
        x.fill('a', 65);
        Checks.due("behind a full block of its own", Checks.finished(x, 32),
                "045f8ae18932119bd051ac7ba5c73db59892055fad5c32f82d79a6543d92a497");
        KeyedDigest keyed = Checks.readyWithKey();
        keyed.start(32, 32);
        keyed.update(255);
        Checks.due("behind the key", Checks.finished(keyed, 32),
                "a04c3fa8280cf1044202a3456bfbea943e69825d7286868bdf8a08589747cb91");
    }

    private static void zerosOfTheMessage() {
        Checks.sentence("how many bytes came, 0s that fill none");
        KeyedDigest x = Checks.open(32);
        x.update('a');
        x.update(0);
        Checks.due("a and a 0 that came", Checks.finished(x, 32),
                "ccf69953dbc8db243e506bb559f512cadc5c78ff8414a68891d06e9c22be6a4a");
        x.start(32, 0);
        x.update('a');
        x.fill(0, 63);
        Checks.due("a and 0s to the block's end", Checks.finished(x, 32),
                "ab7e5e9481707d65ecdc3fd19cc32a6a228af5597483e9272b1086e061918a9f");
    }

    private static void onlyTheLastOneTurned() {
        Checks.sentence("v14 with all bits turned, for the last block");
        KeyedDigest x = Checks.open(32);
        x.fill('a', 65);
        Checks.due("a block that is not the last", Checks.words(x),
                "DAA085A2 B24207C6 04D246F1 28B31589 C3F8E658 0517D1FA DEC3EBC2 4B2151C1");
        x.start(32, 0);
        x.fill('a', 64);
        Checks.due("the same one as the last", Checks.finished(x, 32),
                "651d2f5f20952eacaea2fba2f2af2bcd633e511ea2d2e4c9ae2ac0d9ffb7b252");
    }

    private static void digestIsTheBeginning() {
        Checks.sentence("the digest are the first nn bytes of h");
        for (int nn = 1; nn <= 32; nn++) {
            KeyedDigest x = Checks.open(nn);
            x.fill('a', 70);
            Model model = opened(nn, 0);
            model.fill('a', 70);
            model.finish();
            Checks.due("finish", x.finish(), true);
            for (int i = 0; i < 32; i++) {
                int due = i < nn ? model.word(i / 4) >>> i % 4 * 8 & 255 : KeyedDigest.NONE;
                Checks.due("out(" + i + ") of " + nn, x.out(i), due);
            }
        }
    }
}
