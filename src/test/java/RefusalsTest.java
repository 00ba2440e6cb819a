import java.util.function.Predicate;

/**
 * Each sentence that names a refused call, by a test of its own: the call answers false in every
 * stage that the sentence speaks of, and the object goes on like one that never had the call.
 */
public final class RefusalsTest {
    private static final int MIN = Integer.MIN_VALUE;
    private static final int MAX = Integer.MAX_VALUE;
    private static final int[] NO_BYTES = {MIN, -256, -255, -1, 256, 257, 511, MAX};

    /** One call that may be refused. */
    private interface Call {
        boolean on(KeyedDigest x);
    }

    public static void main(String[] args) {
        keyPlaceThatIsNone();
        keyByteThatIsNone();
        keyWhileOpen();
        startNotReady();
        startOfNoLength();
        startOfNoKey();
        updateOfNone();
        updateWithNoByte();
        updatesOfNone();
        updatesOfNoCount();
        fillOfNone();
        fillWithNoByte();
        fillOfNoCount();
        finishOfNone();
        Checks.end();
    }

    private static void keyPlaceThatIsNone() {
        Checks.sentence("3: false (and nothing changes) if i is not 0 .. 31");
        for (int i : new int[] {MIN, -32, -1, 32, 33, 63, MAX}) {
            refused("setKeyByte(" + i + ", 99)", any -> true, x -> x.setKeyByte(i, 99));
        }
    }

    private static void keyByteThatIsNone() {
        Checks.sentence("3: false (and nothing changes) if b is no byte");
        for (int b : NO_BYTES) {
            refused("setKeyByte(0, " + b + ")", any -> true, x -> x.setKeyByte(0, b));
            refused("setKeyByte(31, " + b + ")", any -> true, x -> x.setKeyByte(31, b));
        }
    }

    private static void keyWhileOpen() {
        Checks.sentence("3: false (and nothing changes) if a message is open");
        for (int i : new int[] {0, 1, 8, 30, 31}) {
            refused("setKeyByte(" + i + ", 99)", Stage::isOpen, x -> x.setKeyByte(i, 99));
        }
    }

    private static void startNotReady() {
        Checks.sentence("4: false if it is not ready");
        for (int nn : new int[] {1, 20, 32}) {
            for (int kk : new int[] {0, 1, 32}) {
                refused("start(" + nn + ", " + kk + ")", Stage.NEW::equals, x -> x.start(nn, kk));
            }
        }
    }

    private static void startOfNoLength() {
        Checks.sentence("4: false if nn is not 1 .. 32");
        for (int nn : new int[] {MIN, -32, -1, 0, 33, 34, 64, 257, MAX}) {
            refused("start(" + nn + ", 0)", any -> true, x -> x.start(nn, 0));
            refused("start(" + nn + ", 32)", any -> true, x -> x.start(nn, 32));
        }
    }

    private static void startOfNoKey() {
        Checks.sentence("4: false if kk is not 0 .. 32");
        for (int kk : new int[] {MIN, -32, -1, 33, 34, 64, 256, MAX}) {
            refused("start(1, " + kk + ")", any -> true, x -> x.start(1, kk));
            refused("start(32, " + kk + ")", any -> true, x -> x.start(32, kk));
        }
    }

    private static void updateOfNone() {
        Checks.sentence("5: false if none is open");
        for (int b : new int[] {0, 1, 254, 255}) {
            refused("update(" + b + ")", RefusalsTest::noneIsOpen, x -> x.update(b));
        }
    }

    private static void updateWithNoByte() {
        Checks.sentence("5: false if b is no byte");
        for (int b : NO_BYTES) {
            refused("update(" + b + ")", any -> true, x -> x.update(b));
        }
    }

    private static void updatesOfNone() {
        Checks.sentence("6: false if none is open");
        for (int n : new int[] {1, 2, 15, 16}) {
            refused("updates(1, 2, 3, 4, " + n + ")", RefusalsTest::noneIsOpen,
                    x -> x.updates(1, 2, 3, 4, n));
        }
    }

    private static void updatesOfNoCount() {
        Checks.sentence("6: false if n is not 1 .. 16");
        for (int n : new int[] {MIN, -16, -1, 0, 17, 18, 20, 32, MAX}) {
            refused("updates(1, 2, 3, 4, " + n + ")", any -> true,
                    x -> x.updates(1, 2, 3, 4, n));
        }
    }

    private static void fillOfNone() {
        Checks.sentence("7: false if none is open");
        for (int n : new int[] {0, 1, 9999, 10000}) {
            refused("fill(9, " + n + ")", RefusalsTest::noneIsOpen, x -> x.fill(9, n));
        }
    }

    private static void fillWithNoByte() {
        Checks.sentence("7: false if b is no byte");
        for (int b : NO_BYTES) {
            refused("fill(" + b + ", 0)", any -> true, x -> x.fill(b, 0));
            refused("fill(" + b + ", 1)", any -> true, x -> x.fill(b, 1));
            refused("fill(" + b + ", 10000)", any -> true, x -> x.fill(b, 10000));
        }
    }

    private static void fillOfNoCount() {
        Checks.sentence("7: false if n is not 0 .. 10000");
        for (int n : new int[] {MIN, -10000, -1, 10001, 10002, 65536, MAX}) {
            refused("fill(0, " + n + ")", any -> true, x -> x.fill(0, n));
            refused("fill(255, " + n + ")", any -> true, x -> x.fill(255, n));
        }
    }

    private static void finishOfNone() {
        Checks.sentence("8: false if none is open");
        refused("finish()", RefusalsTest::noneIsOpen, KeyedDigest::finish);
    }

    private static boolean noneIsOpen(Stage stage) {
        return !stage.isOpen();
    }

    private static void refused(String name, Predicate<Stage> when, Call call) {
        for (Stage stage : Stage.values()) {
            if (when.test(stage)) {
                KeyedDigest x = stage.make();
                Checks.due(stage + ": " + name, call.on(x), false);
                Checks.due(stage + ": what is told behind " + name,
                        Told.further(x), Told.further(stage.make()));
            }
        }
    }
}
