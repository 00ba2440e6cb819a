import java.io.ByteArrayOutputStream;
import java.nio.ByteBuffer;
import java.nio.ByteOrder;
import java.util.Arrays;

/** The document said another way: it keeps the whole message and works h out from its beginning. */
final class Model {
    private static final int[] IV = {
        0x6A09E667, 0xBB67AE85, 0x3C6EF372, 0xA54FF53A,
        0x510E527F, 0x9B05688C, 0x1F83D9AB, 0x5BE0CD19
    };
    private static final String ROWS =
            "0 1 2 3 4 5 6 7 8 9 10 11 12 13 14 15; 14 10 4 8 9 15 13 6 1 12 0 2 11 7 5 3; "
            + "11 8 12 0 5 2 15 13 10 14 3 6 7 1 9 4; 7 9 3 1 13 12 11 14 2 6 5 10 4 0 15 8; "
            + "9 0 5 7 2 4 10 15 14 1 11 12 6 8 3 13; 2 12 6 10 0 11 8 3 4 13 7 5 15 14 1 9; "
            + "12 5 1 15 14 13 4 10 0 7 6 3 9 2 8 11; 13 11 7 14 12 1 3 9 5 0 15 4 8 6 2 10; "
            + "6 15 14 9 11 3 0 8 12 2 13 7 1 4 10 5; 10 2 8 4 7 6 1 5 15 11 9 14 3 12 13 0";
    private static final int[][] PLACES = Arrays.stream(ROWS.split("; "))
            .map(row -> Arrays.stream(row.split(" ")).mapToInt(Integer::parseInt).toArray())
            .toArray(int[][]::new);

    private boolean ready;
    private byte[] key = new byte[32];
    private ByteArrayOutputStream message;
    private boolean finished;
    private int nn;
    private int kk;
    private int[] known;

    void init() {
        ready = true;
        key = new byte[32];
        message = null;
        finished = false;
    }

    boolean setKeyByte(int i, int b) {
        if (i < 0 || i > 31 || noByte(b) || isOpen()) {
            return false;
        }
        key[i] = (byte) b;
        return true;
    }

    boolean start(int digestBytes, int keyBytes) {
        if (!ready || digestBytes < 1 || digestBytes > 32 || keyBytes < 0 || keyBytes > 32) {
            return false;
        }
        message = new ByteArrayOutputStream();
        if (keyBytes > 0) {
            message.writeBytes(Arrays.copyOf(Arrays.copyOf(key, keyBytes), 64));
        }
        finished = false;
        nn = digestBytes;
        kk = keyBytes;
        known = null;
        return true;
    }

    boolean update(int b) {
        return isOpen() && !noByte(b) && add(new byte[] {(byte) b});
    }

    boolean updates(int[] row, int n) {
        if (!isOpen() || n < 1 || n > 16) {
            return false;
        }
        ByteBuffer sixteen = ByteBuffer.allocate(16);
        sixteen.asIntBuffer().put(row);
        return add(Arrays.copyOf(sixteen.array(), n));
    }

    boolean fill(int b, int n) {
        if (!isOpen() || noByte(b) || n < 0 || n > 10000) {
            return false;
        }
        byte[] row = new byte[n];
        Arrays.fill(row, (byte) b);
        return add(row);
    }

    boolean finish() {
        if (!isOpen()) {
            return false;
        }
        finished = true;
        known = null;
        return true;
    }

    int out(int i) {
        if (!finished || i < 0 || i >= nn) {
            return -1;
        }
        ByteBuffer bytes = ByteBuffer.allocate(32).order(ByteOrder.LITTLE_ENDIAN);
        bytes.asIntBuffer().put(h());
        return bytes.get(i) & 255;
    }

    int length() {
        return message == null ? -1 : message.size() - (kk > 0 ? 64 : 0);
    }

    int word(int i) {
        return message == null || i < 0 || i > 7 ? 0 : h()[i];
    }

    /** All words of h, of a message that is open or finished. */
    String words() {
        return Checks.words(h());
    }

    private boolean isOpen() {
        return message != null && !finished;
    }

    private boolean noByte(int b) {
        return (b & ~255) != 0;
    }

    private boolean add(byte[] row) {
        message.writeBytes(row);
        known = null;
        return true;
    }

    private int[] h() {
        if (known == null) {
            known = workOut(message.toByteArray());
        }
        return known;
    }

    private int[] workOut(byte[] all) {
        int[] h = IV.clone();
        h[0] ^= 0x01010000 ^ 256 * kk ^ nn;
        int at = 0;
        while (all.length - at > 64) {
            at += 64;
            mix(h, Arrays.copyOfRange(all, at - 64, at), at, false);
        }
        if (finished) {
            mix(h, Arrays.copyOfRange(all, at, at + 64), all.length, true);
        }
        return h;
    }

    private static void mix(int[] h, byte[] block, long n, boolean last) {
        int[] m = new int[16];
        ByteBuffer.wrap(block).order(ByteOrder.LITTLE_ENDIAN).asIntBuffer().get(m);
        int[] v = Arrays.copyOf(h, 16);
        System.arraycopy(IV, 0, v, 8, 8);
        v[12] ^= (int) n;
        v[13] ^= (int) (n >> 32);
        v[14] = last ? ~v[14] : v[14];
        for (int[] s : PLACES) {
            for (int k = 0; k < 8; k++) {
                // The first four go down the columns, the others each a row further to the right.
                int right = k / 4;
                g(v, new int[] {k % 4, 4 + (k + right) % 4, 8 + (k + 2 * right) % 4,
                    12 + (k + 3 * right) % 4}, m[s[2 * k]], m[s[2 * k + 1]]);
            }
        }
        for (int k = 0; k < 8; k++) {
            h[k] ^= v[k] ^ v[k + 8];
        }
    }

    private static void g(int[] v, int[] at, int x, int y) {
        halfG(v, at, x, 16, 12);
        halfG(v, at, y, 8, 7);
    }

    private static void halfG(int[] v, int[] at, int more, int firstTurn, int secondTurn) {
        v[at[0]] += v[at[1]] + more;
        v[at[3]] = Integer.rotateRight(v[at[3]] ^ v[at[0]], firstTurn);
        v[at[2]] += v[at[3]];
        v[at[1]] = Integer.rotateRight(v[at[1]] ^ v[at[2]], secondTurn);
    }
}
