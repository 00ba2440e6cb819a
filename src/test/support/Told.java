/** What an object tells of itself, as a text that can be held against another one's. */
final class Told {
    private Told() {
    }

    /** All that it tells now, in 41 calls. */
    static String now(KeyedDigest x) {
        StringBuilder text = new StringBuilder();
        text.append(x.length()).append(" (").append(Checks.words(x)).append(")");
        for (int i = 0; i < 32; i++) {
            text.append(' ').append(x.out(i));
        }
        return text.toString();
    }

    /** What it tells now and in its further course, where the waiting block and the key show. */
    static String further(KeyedDigest x) {
        StringBuilder text = new StringBuilder(now(x));
        text.append("; goes on ").append(x.update(200)).append(' ').append(x.fill(7, 70));
        text.append(' ').append(now(x)).append("; ends ").append(x.finish());
        text.append(' ').append(now(x)).append("; another one ").append(x.start(32, 32));
        text.append(' ').append(x.finish()).append(' ').append(now(x));
        x.init();
        text.append("; init ").append(now(x)).append(' ').append(x.start(32, 32));
        return text.append(' ').append(x.finish()).append(' ').append(now(x)).toString();
    }
}
