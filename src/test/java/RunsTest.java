import java.util.Random;

/** Runs of up to 512 calls of every kind, drawn anew the same way each time, against a model. */
public final class RunsTest {
    private static final int[] EDGES = {
        Integer.MIN_VALUE, -256, -1, 0, 1, 2, 7, 8, 15, 16, 17, 31, 32, 33, 63, 64, 65, 127, 128,
        255, 256, 9999, 10000, 10001, Integer.MAX_VALUE
    };

    private final Random random;
    private final KeyedDigest x = new KeyedDigest();
    private final Model model = new Model();

    private RunsTest(long seed) {
        random = new Random(seed);
    }

    public static void main(String[] args) {
        for (int run = 0; run < 400; run++) {
            RunsTest test = new RunsTest(run);
            for (int call = 0; call < 512; call++) {
                test.oneCall("run " + run + ", call " + call + ": ");
            }
        }
        Checks.end();
    }

    private void oneCall(String at) {
        switch (random.nextInt(32)) {
            case 0 -> initNow();
            case 1, 2 -> keyByte(at, near(31), near(255));
            case 3, 4 -> start(at, 1 + near(31), near(32));
            case 5, 6, 7, 8 -> update(at, near(255));
            case 9, 10, 11, 12 -> updates(at, 1 + near(15));
            case 13, 14 -> fill(at, near(255), near(random.nextInt(8) == 0 ? 10000 : 70));
            case 15 -> Checks.due(at + "finish()", x.finish(), model.finish());
            case 16, 17, 18, 19, 20, 21 -> out(at, near(31));
            case 22, 23, 24 -> Checks.due(at + "length()", x.length(), model.length());
            default -> word(at, near(7));
        }
    }

    /** Mostly 0 .. most, now and then an edge or a number of any kind. */
    private int near(int most) {
        return switch (random.nextInt(40)) {
            case 0 -> EDGES[random.nextInt(EDGES.length)];
            case 1 -> random.nextInt();
            case 2 -> 0;
            case 3 -> most;
            case 4 -> most + 1;
            default -> random.nextInt(most + 1);
        };
    }

    private void initNow() {
        x.init();
        model.init();
    }

    private void keyByte(String at, int i, int b) {
        Checks.due(at + "setKeyByte(" + i + ", " + b + ")",
                x.setKeyByte(i, b), model.setKeyByte(i, b));
    }

    private void start(String at, int nn, int kk) {
        Checks.due(at + "start(" + nn + ", " + kk + ")", x.start(nn, kk), model.start(nn, kk));
    }

    private void update(String at, int b) {
        Checks.due(at + "update(" + b + ")", x.update(b), model.update(b));
    }

    private void updates(String at, int n) {
        int[] row = random.ints(4).toArray();
        Checks.due(at + "updates(.., " + n + ")",
                x.updates(row[0], row[1], row[2], row[3], n), model.updates(row, n));
    }

    private void fill(String at, int b, int n) {
        Checks.due(at + "fill(" + b + ", " + n + ")", x.fill(b, n), model.fill(b, n));
    }

    private void out(String at, int i) {
        Checks.due(at + "out(" + i + ")", x.out(i), model.out(i));
    }

    private void word(String at, int i) {
        Checks.due(at + "word(" + i + ")", x.word(i), model.word(i));
    }
}
