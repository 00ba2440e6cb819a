/** The stages of an object that the document tells apart; all but NEW have the key 1 .. 32. */
enum Stage {
    NEW, READY,
    OPEN_EMPTY, OPEN_KEY_WAITS, OPEN, OPEN_WITH_KEY, OPEN_FULL_BLOCK,
    FINISHED_EMPTY, FINISHED, FINISHED_WITH_KEY;

    boolean isOpen() {
        return ordinal() >= OPEN_EMPTY.ordinal() && ordinal() <= OPEN_FULL_BLOCK.ordinal();
    }

    boolean isFinished() {
        return ordinal() >= FINISHED_EMPTY.ordinal();
    }

    /** How many bytes of its message came; -1 if it has none. */
    int bytes() {
        return switch (this) {
            case NEW, READY -> -1;
            case OPEN_EMPTY, OPEN_KEY_WAITS, FINISHED_EMPTY -> 0;
            case OPEN, FINISHED -> 3;
            case OPEN_WITH_KEY, FINISHED_WITH_KEY -> 70;
            case OPEN_FULL_BLOCK -> 64;
        };
    }

    /** How many bytes its digest has, or will have; 0 if it has no message. */
    int digestBytes() {
        return switch (this) {
            case NEW, READY -> 0;
            case OPEN_WITH_KEY, FINISHED_WITH_KEY -> 20;
            default -> 32;
        };
    }

    KeyedDigest make() {
        if (this == NEW) {
            return new KeyedDigest();
        }
        KeyedDigest x = Checks.readyWithKeyFrom(1);
        if (this != READY) {
            Checks.due(this + ": start", x.start(digestBytes(), keyBytes()), true);
            Checks.due(this + ": fill", x.fill('a', bytes()), true);
        }
        if (isFinished()) {
            Checks.due(this + ": finish", x.finish(), true);
        }
        return x;
    }

    private int keyBytes() {
        return switch (this) {
            case OPEN_KEY_WAITS -> 32;
            case OPEN_WITH_KEY, FINISHED_WITH_KEY -> 9;
            default -> 0;
        };
    }
}
