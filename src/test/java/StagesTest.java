/**
 * Each sentence that tells a stage from another, by a test of its own: a new object, init, one
 * message in place of another, what is told with no message, with an open and with a finished one.
 */
public final class StagesTest {
    private static final String NO_WORDS = Checks.words(new int[8]);

    public static void main(String[] args) {
        newIsNotReady();
        initMakesReady();
        initSetsTheKeyTo0();
        initLeavesNothing();
        keyBetweenMessages();
        keyBehindFinish();
        inPlaceOfOpen();
        inPlaceOfFinished();
        refusedInPlaceOfNone();
        finishOnce();
        outOfNone();
        outTillAnother();
        lengthOfNone();
        lengthOfTheMessage();
        wordOfNone();
        wordAsItIs();
        questionsChangeNothing();
        theLastCall();
        Checks.end();
    }

    private static void newIsNotReady() {
        Checks.sentence("1: not ready");
        KeyedDigest x = new KeyedDigest();
        Checks.due("start(32, 0)", x.start(32, 0), false);
        Checks.due("start(1, 32)", x.start(1, 32), false);
        nothingIsThere("new", x);
        Checks.due("a key does not make it ready", x.setKeyByte(0, 1), true);
        Checks.due("start(32, 1)", x.start(32, 1), false);
        nothingIsThere("new, with a key", x);
    }

    private static void nothingIsThere(String when, KeyedDigest x) {
        Checks.due(when + ": update", x.update(1), false);
        Checks.due(when + ": updates", x.updates(1, 2, 3, 4, 16), false);
        Checks.due(when + ": fill", x.fill(1, 1), false);
        Checks.due(when + ": finish", x.finish(), false);
        Checks.due(when + ": out", Checks.digest(x, 32), "ffffffff".repeat(32));
        Checks.due(when + ": length", x.length(), KeyedDigest.NONE);
        Checks.due(when + ": words", Checks.words(x), NO_WORDS);
    }

    private static void initMakesReady() {
        Checks.sentence("2: ready");
        for (Stage stage : Stage.values()) {
            KeyedDigest x = stage.make();
            x.init();
            Checks.due(stage + ": start(32, 0)", x.start(32, 0), true);
            x.init();
            x.init();
            Checks.due(stage + ": start(1, 32)", x.start(1, 32), true);
        }
    }

    private static void initSetsTheKeyTo0() {
        Checks.sentence("2: the key 0");
        for (Stage stage : Stage.values()) {
            KeyedDigest x = stage.make();
            x.init();
            x.start(32, 32);
            Checks.due(stage + ": digest with it", Checks.finished(x, 32),
                    Known.EMPTY_WITH_KEY_OF_0S);
        }
        KeyedDigest early = new KeyedDigest();
        for (int i = 0; i < 32; i++) {
            early.setKeyByte(i, 255);
        }
        early.init();
        early.start(32, 32);
        Checks.due("a key set before init", Checks.finished(early, 32),
                Known.EMPTY_WITH_KEY_OF_0S);
    }

    private static void initLeavesNothing() {
        Checks.sentence("2: nothing open or finished");
        for (Stage stage : Stage.values()) {
            KeyedDigest x = stage.make();
            x.init();
            nothingIsThere(stage.toString(), x);
            Checks.due(stage + ": setKeyByte(0, 0)", x.setKeyByte(0, 0), true);
            x.start(32, 0);
            Checks.due(stage + ": the next digest", Checks.finished(x, 32), Known.EMPTY);
        }
    }

    private static void keyBetweenMessages() {
        Checks.sentence("3: byte i of the key: true, if no message is open");
        for (Stage stage : Stage.values()) {
            KeyedDigest x = stage.make();
            for (int i = 0; i < 32; i++) {
                Checks.due(stage + ": setKeyByte(" + i + ", " + i + ")",
                        x.setKeyByte(i, i), !stage.isOpen());
            }
            if (stage != Stage.NEW && !stage.isOpen()) {
                x.start(32, 32);
                Checks.due(stage + ": digest with it", Checks.finished(x, 32),
                        Known.EMPTY_WITH_KEY);
            }
        }
    }

    private static void keyBehindFinish() {
        Checks.sentence("3: byte i of the key, not of the message that was finished");
        for (Stage stage : Stage.values()) {
            if (stage.isFinished()) {
                KeyedDigest x = stage.make();
                String before = Told.now(x);
                x.setKeyByte(0, 99);
                x.setKeyByte(31, 99);
                Checks.due(stage + ": what is told", Told.now(x), before);
            }
        }
    }

    private static void inPlaceOfOpen() {
        Checks.sentence("4: a message is opened (in place of one that was), behind an open one");
        for (Stage stage : Stage.values()) {
            if (stage.isOpen()) {
                inPlaceOf(stage);
            }
        }
    }

    private static void inPlaceOfFinished() {
        Checks.sentence("4: a message is opened (in place of one that was), behind a finished one");
        for (Stage stage : Stage.values()) {
            if (stage.isFinished()) {
                inPlaceOf(stage);
            }
        }
    }

    private static void inPlaceOf(Stage stage) {
        for (int nn : new int[] {1, 20, 32}) {
            for (int kk : new int[] {0, 1, 32}) {
                KeyedDigest x = stage.make();
                KeyedDigest first = Stage.READY.make();
                String call = stage + ": start(" + nn + ", " + kk + ")";
                Checks.due(call, x.start(nn, kk), true);
                first.start(nn, kk);
                Checks.due(call + ": length", x.length(), 0);
                Checks.due(call + ": out(0)", x.out(0), KeyedDigest.NONE);
                Checks.due(call + ": further", Told.further(x), Told.further(first));
            }
        }
        KeyedDigest x = stage.make();
        x.start(32, 0);
        x.updates(0x61626300, 0, 0, 0, 3);
        Checks.due(stage + ": digest of abc", Checks.finished(x, 32), Known.ABC);
    }

    private static void refusedInPlaceOfNone() {
        Checks.sentence("4: false: no message is opened, and none is replaced");
        KeyedDigest x = Checks.open(32);
        x.update('a');
        Checks.due("start(0, 0)", x.start(0, 0), false);
        x.update('b');
        Checks.due("start(32, 33)", x.start(32, 33), false);
        x.update('c');
        Checks.due("digest of abc", Checks.finished(x, 32), Known.ABC);
        Checks.due("start(33, 0)", x.start(33, 0), false);
        Checks.due("start(32, -1)", x.start(32, -1), false);
        Checks.due("the digest stays", Checks.digest(x, 32), Known.ABC);
    }

    private static void finishOnce() {
        Checks.sentence("8: the message is finished: true");
        for (Stage stage : Stage.values()) {
            KeyedDigest x = stage.make();
            int bytes = x.length();
            Checks.due(stage + ": finish()", x.finish(), stage.isOpen());
            Checks.due(stage + ": finish() again", x.finish(), false);
            Checks.due(stage + ": update", x.update(1), false);
            Checks.due(stage + ": updates", x.updates(1, 2, 3, 4, 1), false);
            Checks.due(stage + ": fill", x.fill(1, 0), false);
            Checks.due(stage + ": length", x.length(), bytes);
            Checks.due(stage + ": there is a digest", x.out(0) >= 0, stage.bytes() >= 0);
        }
    }

    private static void outOfNone() {
        Checks.sentence("9: -1 if there is none");
        for (Stage stage : Stage.values()) {
            KeyedDigest x = stage.make();
            int most = stage.isFinished() ? stage.digestBytes() : 0;
            for (int i = 0; i < 32; i++) {
                Checks.due(stage + ": out(" + i + ") is a byte", x.out(i) != KeyedDigest.NONE,
                        i < most);
            }
            x.init();
            Checks.due(stage + ", init: out(0)", x.out(0), KeyedDigest.NONE);
        }
    }

    private static void outTillAnother() {
        Checks.sentence("9: of the message that was finished (till another one is opened)");
        KeyedDigest x = Checks.open(32);
        x.updates(0x61626300, 0, 0, 0, 3);
        Checks.due("out(0) while open", x.out(0), KeyedDigest.NONE);
        Checks.due("out", Checks.finished(x, 32), Known.ABC);
        Checks.due("out again", Checks.digest(x, 32), Known.ABC);
        x.start(1, 0);
        for (int i = 0; i < 32; i++) {
            Checks.due("out(" + i + ") of the next one", x.out(i), KeyedDigest.NONE);
        }
        x.updates(0x61626300, 0, 0, 0, 3);
        Checks.due("out(0) of the next one, with bytes", x.out(0), KeyedDigest.NONE);
        x.finish();
        Checks.due("out(0) of the next one, finished", x.out(0), 0x0D);
        Checks.due("out(1) of the next one, finished", x.out(1), KeyedDigest.NONE);
    }

    private static void lengthOfNone() {
        Checks.sentence("10: -1 if there is none");
        Checks.due("new", new KeyedDigest().length(), KeyedDigest.NONE);
        for (Stage stage : Stage.values()) {
            KeyedDigest x = stage.make();
            x.init();
            Checks.due(stage + ", init", x.length(), KeyedDigest.NONE);
        }
    }

    private static void lengthOfTheMessage() {
        Checks.sentence("10: how many bytes of the message came that is open or finished");
        for (Stage stage : Stage.values()) {
            Checks.due(stage.toString(), stage.make().length(), stage.bytes());
        }
        KeyedDigest x = Stage.OPEN_KEY_WAITS.make();
        Checks.due("the key is none of them", x.length(), 0);
        x.update(0);
        Checks.due("behind update", x.length(), 1);
        x.updates(0, 0, 0, 0, 16);
        Checks.due("behind updates", x.length(), 17);
        x.fill(0, 0);
        Checks.due("behind fill of none", x.length(), 17);
        x.fill(0, 10000);
        Checks.due("behind fill", x.length(), 10017);
        x.finish();
        Checks.due("0s that fill are none of them", x.length(), 10017);
    }

    private static void wordOfNone() {
        Checks.sentence("11: 0 if nothing is open or finished");
        Checks.due("new", Checks.words(new KeyedDigest()), NO_WORDS);
        for (Stage stage : Stage.values()) {
            KeyedDigest x = stage.make();
            x.init();
            Checks.due(stage + ", init", Checks.words(x), NO_WORDS);
        }
    }

    private static void wordAsItIs() {
        Checks.sentence("11: word i of h, as it is");
        KeyedDigest x = Checks.open(32);
        x.update('a');
        String started = "6B08E647 BB67AE85 3C6EF372 A54FF53A 510E527F 9B05688C 1F83D9AB 5BE0CD19";
        Checks.due("open", Checks.words(x), started);
        x.update('b');
        x.update('c');
        Checks.due("open, more bytes", Checks.words(x), started);
        x.finish();
        Checks.due("finished", Checks.words(x),
                "8C5E8C50 E2147C32 A32BA7E1 2F45EB4E 208B4537 293AD69E 4C9B994D 82596786");
        x.start(4, 0);
        x.finish();
        Checks.due("finished, behind a short digest too", x.word(7) != 0, true);
    }

    private static void questionsChangeNothing() {
        Checks.sentence("9, 10, 11: a question changes nothing");
        for (Stage stage : Stage.values()) {
            KeyedDigest x = stage.make();
            for (int i : new int[] {Integer.MIN_VALUE, -1, 0, 7, 8, 31, 32, Integer.MAX_VALUE}) {
                x.out(i);
                x.word(i);
                x.length();
            }
            Checks.due(stage.toString(), unasked(x), unasked(stage.make()));
        }
    }

    // Asks nothing before the message's end, so that a question's own trace would show.
    private static String unasked(KeyedDigest x) {
        boolean filled = x.fill(7, 70);
        boolean finished = x.finish();
        return filled + " " + finished + " " + Told.further(x);
    }

    private static void theLastCall() {
        Checks.sentence("an object is used for at most 512 calls");
        KeyedDigest x = Checks.open(32);
        for (int i = 0; i < 507; i++) {
            x.fill(171, 10000);
        }
        Checks.due("call 510: finish()", x.finish(), true);
        Checks.due("call 511: length()", x.length(), 5070000);
        Checks.due("call 512: word(7)", x.word(7), 0x0F002360);
    }
}
