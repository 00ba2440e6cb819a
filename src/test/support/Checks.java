/** Counts the wrong answers of a test, and holds the steps that several tests share. */
final class Checks {
    private static int wrong = 0;
    private static int seen = 0;
    private static String sentence = "";

    private Checks() {
    }

    /** Names the document's sentence that the answers from here on belong to. */
    static void sentence(String words) {
        sentence = "[" + words + "] ";
    }

    static void due(String call, long got, long want) {
        seen++;
        if (got != want) {
            tell(call, Long.toString(got), Long.toString(want));
        }
    }

    static void due(String call, boolean got, boolean want) {
        due(call, got ? 1L : 0L, want ? 1L : 0L);
    }

    static void due(String call, String got, String want) {
        seen++;
        if (!got.equals(want)) {
            tell(call, got, want);
        }
    }

    private static void tell(String call, String got, String want) {
        wrong++;
        System.out.println(sentence + call + " answered " + got + ", due is " + want);
    }

    static void end() {
        System.out.println(seen + " answers looked at, " + wrong + " wrong");
        if (wrong != 0 || seen == 0) {
            System.exit(1);
        }
    }

    static KeyedDigest ready() {
        KeyedDigest x = new KeyedDigest();
        x.init();
        return x;
    }

    static KeyedDigest open(int nn) {
        KeyedDigest x = ready();
        due("start(" + nn + ", 0)", x.start(nn, 0), true);
        return x;
    }

    /** Ready, and its key is 0, 1, 2 .. 31. */
    static KeyedDigest readyWithKey() {
        return readyWithKeyFrom(0);
    }

    /** Ready, and its key is 32 numbers in their order, from the first one on. */
    static KeyedDigest readyWithKeyFrom(int first) {
        KeyedDigest x = ready();
        for (int i = 0; i < 32; i++) {
            due("setKeyByte(" + i + ", " + (first + i) + ")", x.setKeyByte(i, first + i), true);
        }
        return x;
    }

    static String digest(KeyedDigest x, int nn) {
        StringBuilder hex = new StringBuilder();
        for (int i = 0; i < nn; i++) {
            hex.append(String.format("%02x", x.out(i)));
        }
        return hex.toString();
    }

    static String finished(KeyedDigest x, int nn) {
        due("finish()", x.finish(), true);
        return digest(x, nn);
    }

    static String words(KeyedDigest x) {
        int[] h = new int[8];
        for (int i = 0; i < 8; i++) {
            h[i] = x.word(i);
        }
        return words(h);
    }

    static String words(int[] h) {
        StringBuilder hex = new StringBuilder();
        for (int i = 0; i < h.length; i++) {
            hex.append(i == 0 ? "" : " ").append(String.format("%08X", h[i]));
        }
        return hex.toString();
    }

    /** Adds a row of bytes by sixteens, to stay far below an object's 512 calls. */
    static void add(KeyedDigest x, byte[] row) {
        for (int at = 0; at < row.length; at += 16) {
            int n = Math.min(16, row.length - at);
            due("updates(.., " + n + ")", x.updates(number(row, at), number(row, at + 4),
                    number(row, at + 8), number(row, at + 12), n), true);
        }
    }

    private static int number(byte[] row, int at) {
        int number = 0;
        for (int i = at; i < at + 4; i++) {
            number = number << 8 | (i < row.length ? row[i] & 255 : 0);
        }
        return number;
    }
}
