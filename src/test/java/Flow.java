import java.math.BigInteger;
import java.security.GeneralSecurityException;
import java.security.MessageDigest;
import java.util.Arrays;
import javax.crypto.Cipher;
import javax.crypto.Mac;
import javax.crypto.spec.IvParameterSpec;
import javax.crypto.spec.SecretKeySpec;

/** One direction's keys and where it stands, by the Java library's own ciphers, digests and numbers. */
final class Flow {
    static final BigInteger P = BigInteger.TWO.pow(256).subtract(BigInteger.valueOf(189));
    static final BigInteger HOST_P = new BigInteger("ffffffffffffffda0d8c6cc24a8fffdd", 16);
    static final BigInteger HOST_Q = new BigInteger("ffff8495bc58106fe02d60fa0617c815", 16);
    static final BigInteger N = HOST_P.multiply(HOST_Q);
    static final BigInteger E = BigInteger.valueOf(65537);
    static final BigInteger D =
        E.modInverse(HOST_P.subtract(BigInteger.ONE).multiply(HOST_Q.subtract(BigInteger.ONE)));

    private final byte[] key;
    private final byte[] sealKey;
    private BigInteger counter;
    int number;

    Flow(byte[] common, byte[] hash, int letter) {
        byte[] low = digest(common, hash, new byte[] {(byte) letter});
        key = Arrays.copyOf(low, 16);
        counter = new BigInteger(1, Arrays.copyOfRange(low, 16, 32));
        sealKey = digest(common, hash, new byte[] {(byte) (letter + 1)});
    }

    static byte[] digest(byte[]... rows) {
        try {
            MessageDigest digest = MessageDigest.getInstance("SHA-256");
            for (byte[] row : rows) {
                digest.update(row);
            }
            return digest.digest();
        } catch (GeneralSecurityException e) {
            throw new IllegalStateException(e);
        }
    }

    static byte[] word(int w) {
        return new byte[] {(byte) (w >> 24), (byte) (w >> 16), (byte) (w >> 8), (byte) w};
    }

    static int word(byte[] row, int at) {
        return new BigInteger(Arrays.copyOfRange(row, at, at + 4)).intValue();
    }

    /** A number's last so many bytes, zeros before them if it has less. */
    static byte[] bytes(BigInteger number, int count) {
        byte[] raw = number.toByteArray();
        byte[] row = new byte[count];
        for (int i = 0; i < count && i < raw.length; i++) {
            row[count - 1 - i] = raw[raw.length - 1 - i];
        }
        return row;
    }

    static byte[] bytes(BigInteger number) {
        return bytes(number, 32);
    }

    static byte[] join(byte[]... rows) {
        int size = 0;
        for (byte[] row : rows) {
            size += row.length;
        }
        byte[] all = new byte[size];
        int at = 0;
        for (byte[] row : rows) {
            System.arraycopy(row, 0, all, at, row.length);
            at += row.length;
        }
        return all;
    }

    static BigInteger secret(int seed, int who) {
        return new BigInteger(1, digest(word(seed), word(who)));
    }

    static byte[] hash(BigInteger clients, BigInteger servers, BigInteger common) {
        return digest(bytes(P), bytes(BigInteger.TWO), bytes(N), bytes(clients), bytes(servers), bytes(common));
    }

    /** Enciphers or deciphers from where the flow stands, which stays there. */
    byte[] mask(byte[] row) {
        try {
            Cipher cipher = Cipher.getInstance("AES/CTR/NoPadding");
            cipher.init(Cipher.ENCRYPT_MODE, new SecretKeySpec(key, "AES"), new IvParameterSpec(bytes(counter, 16)));
            return cipher.doFinal(row);
        } catch (GeneralSecurityException e) {
            throw new IllegalStateException(e);
        }
    }

    byte[] seal(byte[] plain) {
        try {
            Mac mac = Mac.getInstance("HmacSHA256");
            mac.init(new SecretKeySpec(sealKey, "HmacSHA256"));
            mac.update(word(number));
            return mac.doFinal(plain);
        } catch (GeneralSecurityException e) {
            throw new IllegalStateException(e);
        }
    }

    /** A packet that is enciphered and sealed as the next one of the flow. */
    byte[] packet(byte[] plain) {
        return join(mask(plain), seal(plain));
    }

    void goOn(int plainBytes) {
        counter = counter.add(BigInteger.valueOf(plainBytes / 16)).mod(BigInteger.TWO.pow(128));
        number++;
    }

    /** A packet before it is enciphered, with the padding that the document asks for. */
    static byte[] plain(byte[] payload) {
        int padding = 4;
        while ((5 + payload.length + padding) % 16 != 0) {
            padding++;
        }
        return plain(payload, padding);
    }

    static byte[] plain(byte[] payload, int padding) {
        byte[] pad = new byte[padding];
        for (int i = 0; i < padding; i++) {
            pad[i] = (byte) (37 * i);
        }
        return join(word(1 + payload.length + padding), new byte[] {(byte) padding}, payload, pad);
    }

    static byte[] request(int number, int kind, int a, int b, int c, int d) {
        return join(new byte[] {0}, word(number), new byte[] {(byte) kind}, word(a), word(b), word(c), word(d));
    }

    static byte[] reply(int number, int status, byte[] read) {
        return join(new byte[] {1}, word(number), word(status), read);
    }

    static byte[] grant(int amount) {
        return join(new byte[] {2}, word(amount));
    }
}
