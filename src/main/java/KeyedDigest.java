/**
 * Digests of rows of bytes, of 1 to 32 bytes, with a key or without (BLAKE2s, RFC 7693), byte by
 * byte.
 */
public final class KeyedDigest {
    public static final int NONE = -1;

    private static final int KEY_BYTES = 32;
    private static final int DIGEST_BYTES = 32;
    private static final int MOST_FILLED = 10000;

    private static final int NOT_READY = 0;
    private static final int IDLE = 1;
    private static final int OPEN = 2;
    private static final int FINISHED = 3;

    private final int[] key;
    private final Chain chain;
    private int state;
    private int digestBytes;
    private int messageBytes;

    public KeyedDigest() {
        key = new int[KEY_BYTES];
        chain = new Chain();
        state = NOT_READY;
        digestBytes = 0;
        messageBytes = 0;
    }

    public void init() {
        for (int i = 0; i < KEY_BYTES; i++) {
            key[i] = 0;
        }
        state = IDLE;
    }

    // The document asks for no ready object here; a key set before init is lost with it.
    public boolean setKeyByte(int i, int b) {
        if (i < 0 || i >= KEY_BYTES || !isByte(b) || state == OPEN) {
            return false;
        }
        key[i] = b;
        return true;
    }

    public boolean start(int nn, int kk) {
        if (state == NOT_READY || nn < 1 || nn > DIGEST_BYTES || kk < 0 || kk > KEY_BYTES) {
            return false;
        }
        chain.begin(nn, kk);
        if (kk > 0) {
            chain.addKey(key, kk);
        }
        state = OPEN;
        digestBytes = nn;
        messageBytes = 0;
        return true;
    }

    public boolean update(int b) {
        if (state != OPEN || !isByte(b)) {
            return false;
        }
        addToMessage(b);
        return true;
    }

    public boolean updates(int a, int b, int c, int d, int n) {
        if (state != OPEN || n < 1 || n > 16) {
            return false;
        }
        addHighestFirst(a, Math.min(n, 4));
        addHighestFirst(b, Math.min(n - 4, 4));
        addHighestFirst(c, Math.min(n - 8, 4));
        addHighestFirst(d, Math.min(n - 12, 4));
        return true;
    }

    public boolean fill(int b, int n) {
        if (state != OPEN || !isByte(b) || n < 0 || n > MOST_FILLED) {
            return false;
        }
        for (int i = 0; i < n; i++) {
            addToMessage(b);
        }
        return true;
    }

    public boolean finish() {
        if (state != OPEN) {
            return false;
        }
        chain.mixLast();
        state = FINISHED;
        return true;
    }

    public int out(int i) {
        if (state != FINISHED || i < 0 || i >= digestBytes) {
            return NONE;
        }
        return chain.stateByte(i);
    }

    public int length() {
        return hasMessage() ? messageBytes : NONE;
    }

    public int word(int i) {
        if (!hasMessage() || i < 0 || i >= Chain.STATE_WORDS) {
            return 0;
        }
        return chain.stateWord(i);
    }

    private boolean hasMessage() {
        return state == OPEN || state == FINISHED;
    }

    private void addToMessage(int b) {
        chain.addByte(b);
        messageBytes++;
    }

    // A count below 1 adds nothing, so that a short row may leave its later numbers out.
    private void addHighestFirst(int number, int count) {
        for (int i = 0; i < count; i++) {
            addToMessage((number >>> (24 - 8 * i)) & 255);
        }
    }

    private static boolean isByte(int b) {
        return b >= 0 && b <= 255;
    }

    /** The words h of one message, and the block that waits to be mixed into them. */
    private static final class Chain {
        static final int STATE_WORDS = 8;

        private static final int BLOCK_WORDS = 16;
        private static final int BLOCK_BYTES = 64;
        private static final int ROUNDS = 10;
        private static final int PARAMETERS = 0x01010000;

        private static final int[] IV = {
            0x6A09E667, 0xBB67AE85, 0x3C6EF372, 0xA54FF53A,
            0x510E527F, 0x9B05688C, 0x1F83D9AB, 0x5BE0CD19
        };

        // One row of sixteen places for each round, the rows one behind the other.
        private static final int[] PLACES = {
            0, 1, 2, 3, 4, 5, 6, 7, 8, 9, 10, 11, 12, 13, 14, 15,
            14, 10, 4, 8, 9, 15, 13, 6, 1, 12, 0, 2, 11, 7, 5, 3,
            11, 8, 12, 0, 5, 2, 15, 13, 10, 14, 3, 6, 7, 1, 9, 4,
            7, 9, 3, 1, 13, 12, 11, 14, 2, 6, 5, 10, 4, 0, 15, 8,
            9, 0, 5, 7, 2, 4, 10, 15, 14, 1, 11, 12, 6, 8, 3, 13,
            2, 12, 6, 10, 0, 11, 8, 3, 4, 13, 7, 5, 15, 14, 1, 9,
            12, 5, 1, 15, 14, 13, 4, 10, 0, 7, 6, 3, 9, 2, 8, 11,
            13, 11, 7, 14, 12, 1, 3, 9, 5, 0, 15, 4, 8, 6, 2, 10,
            6, 15, 14, 9, 11, 3, 0, 8, 12, 2, 13, 7, 1, 4, 10, 5,
            10, 2, 8, 4, 7, 6, 1, 5, 15, 11, 9, 14, 3, 12, 13, 0
        };

        private final int[] h;
        private final int[] m;
        private final int[] v;
        private int blockBytes;
        private long allBytes;

        Chain() {
            h = new int[STATE_WORDS];
            m = new int[BLOCK_WORDS];
            v = new int[2 * STATE_WORDS];
            blockBytes = 0;
            allBytes = 0L;
        }

        void begin(int nn, int kk) {
            for (int i = 0; i < STATE_WORDS; i++) {
                h[i] = IV[i];
            }
            h[0] ^= PARAMETERS + 256 * kk + nn;
            allBytes = 0L;
            emptyBlock();
        }

        // The key's block counts as full, so that the first byte of the message mixes it in.
        void addKey(int[] key, int kk) {
            for (int i = 0; i < kk && i < key.length; i++) {
                addByte(key[i]);
            }
            blockBytes = BLOCK_BYTES;
            allBytes = BLOCK_BYTES;
        }

        // A full block waits for the byte behind it: only then is it known not to be the last.
        void addByte(int b) {
            if (blockBytes >= BLOCK_BYTES) {
                mix(0);
                emptyBlock();
            }
            m[blockBytes >> 2] |= b << (8 * (blockBytes & 3));
            blockBytes++;
            allBytes++;
        }

        void mixLast() {
            mix(-1);
        }

        int stateWord(int i) {
            return h[i];
        }

        int stateByte(int i) {
            return (h[i >> 2] >>> (8 * (i & 3))) & 255;
        }

        private void emptyBlock() {
            for (int i = 0; i < BLOCK_WORDS; i++) {
                m[i] = 0;
            }
            blockBytes = 0;
        }

        private void mix(int lastMask) {
            for (int i = 0; i < STATE_WORDS; i++) {
                v[i] = h[i];
                v[i + 8] = IV[i];
            }
            v[12] ^= (int) allBytes;
            v[13] ^= (int) (allBytes >>> 32);
            v[14] ^= lastMask;
            for (int r = 0; r < ROUNDS; r++) {
                mixRound(16 * r);
            }
            for (int i = 0; i < STATE_WORDS; i++) {
                h[i] ^= v[i] ^ v[i + 8];
            }
        }

        private void mixRound(int s) {
            mixFour(0, 4, 8, 12, PLACES[s], PLACES[s + 1]);
            mixFour(1, 5, 9, 13, PLACES[s + 2], PLACES[s + 3]);
            mixFour(2, 6, 10, 14, PLACES[s + 4], PLACES[s + 5]);
            mixFour(3, 7, 11, 15, PLACES[s + 6], PLACES[s + 7]);
            mixFour(0, 5, 10, 15, PLACES[s + 8], PLACES[s + 9]);
            mixFour(1, 6, 11, 12, PLACES[s + 10], PLACES[s + 11]);
            mixFour(2, 7, 8, 13, PLACES[s + 12], PLACES[s + 13]);
            mixFour(3, 4, 9, 14, PLACES[s + 14], PLACES[s + 15]);
        }

        // The document's G.
        private void mixFour(int a, int b, int c, int d, int x, int y) {
            v[a] = v[a] + v[b] + m[x];
            v[d] = turnDown(v[d] ^ v[a], 16);
            v[c] = v[c] + v[d];
            v[b] = turnDown(v[b] ^ v[c], 12);
            v[a] = v[a] + v[b] + m[y];
            v[d] = turnDown(v[d] ^ v[a], 8);
            v[c] = v[c] + v[d];
            v[b] = turnDown(v[b] ^ v[c], 7);
        }

        private static int turnDown(int word, int by) {
            return (word >>> by) | (word << (32 - by));
        }
    }
}
