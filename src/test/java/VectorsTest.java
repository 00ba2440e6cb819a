import java.security.MessageDigest;
import java.security.NoSuchAlgorithmException;
import java.util.HexFormat;

/** Digests that others worked out: RFC 7693, and Python's hashlib.blake2s. */
public final class VectorsTest {
    public static void main(String[] args) throws NoSuchAlgorithmException {
        selfTestOfTheRfc();
        eachLengthOfDigestAndKey();
        eachLengthOfMessage();
        Checks.end();
    }

    // RFC 7693, appendix E: the digest of 48 digests.
    private static void selfTestOfTheRfc() {
        KeyedDigest all = Checks.open(32);
        for (int nn : new int[] {16, 20, 28, 32}) {
            for (int n : new int[] {0, 3, 64, 65, 255, 1024}) {
                byte[] message = rfcRow(n);
                Checks.add(all, digest(nn, new byte[0], message));
                Checks.add(all, digest(nn, rfcRow(nn), message));
            }
        }
        Checks.due("the RFC's self-test", Checks.finished(all, 32),
                "6a411f08ce25adcdfb02aba641451cec53c598b24f4fc787fbdc88797f4c1dfe");
    }

    private static byte[] rfcRow(int n) {
        byte[] row = new byte[n];
        int a = 0xDEAD4BAD * n;
        int b = 1;
        for (int i = 0; i < n; i++) {
            int t = a + b;
            a = b;
            b = t;
            row[i] = (byte) (t >>> 24);
        }
        return row;
    }

    // hashlib: the SHA-256 of the digests of all nn 1 .. 32 and kk 0 .. 32.
    private static void eachLengthOfDigestAndKey() throws NoSuchAlgorithmException {
        MessageDigest digests = MessageDigest.getInstance("SHA-256");
        for (int nn = 1; nn <= 32; nn++) {
            for (int kk = 0; kk <= 32; kk++) {
                byte[] message = row((nn * 33 + kk) % 200, 7, nn + kk);
                digests.update(digest(nn, row(kk, 3, 200), message));
            }
        }
        Checks.due("each nn and kk", HexFormat.of().formatHex(digests.digest()),
                "40bb121f6dc2907285295427e2f59e34fad1cdf98fb273c9743e0a2bf719a200");
    }

    // hashlib: the SHA-256 of the digests of messages of 0 .. 299 bytes.
    private static void eachLengthOfMessage() throws NoSuchAlgorithmException {
        MessageDigest digests = MessageDigest.getInstance("SHA-256");
        for (int kk : new int[] {0, 1, 32}) {
            for (int n = 0; n < 300; n++) {
                digests.update(digest(32, row(kk, 3, 200), row(n, 11, 5)));
            }
        }
        Checks.due("each length of message", HexFormat.of().formatHex(digests.digest()),
                "7e1f3c0afd4740c918020602264095b03be4f67e868cba011c61af2972f93954");
    }

    private static byte[] row(int n, int step, int first) {
        byte[] row = new byte[n];
        for (int i = 0; i < n; i++) {
            row[i] = (byte) (step * i + first);
        }
        return row;
    }

    private static byte[] digest(int nn, byte[] key, byte[] message) {
        KeyedDigest x = Checks.ready();
        for (int i = 0; i < key.length; i++) {
            Checks.due("setKeyByte", x.setKeyByte(i, key[i] & 255), true);
        }
        Checks.due("start(" + nn + ", " + key.length + ")", x.start(nn, key.length), true);
        Checks.add(x, message);
        Checks.due("finish", x.finish(), true);
        byte[] digest = new byte[nn];
        for (int i = 0; i < nn; i++) {
            digest[i] = (byte) x.out(i);
        }
        return digest;
    }
}
