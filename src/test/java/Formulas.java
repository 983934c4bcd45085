import java.math.BigInteger;
import java.util.Arrays;

/** Blocks, digests and seals as the document's formulas tell them, step by step and without the Java library's own. */
final class Formulas {
    private static final int[] FIRST_STATE = {
        0x6a09e667, 0xbb67ae85, 0x3c6ef372, 0xa54ff53a, 0x510e527f, 0x9b05688c, 0x1f83d9ab, 0x5be0cd19};
    private static final int[] S = new int[256];
    private static final int[] K = new int[64];

    static {
        for (int b = 0; b < 256; b++) {
            S[b] = s(b);
        }
        int prime = 1;
        for (int t = 0; t < 64; t++) {
            prime = BigInteger.valueOf(prime).nextProbablePrime().intValue();
            K[t] = cubeRoot(BigInteger.valueOf(prime).shiftLeft(3 * 32)).intValue();
        }
    }

    private Formulas() {
    }

    private static int product(int a, int b) {
        int all = 0;
        for (int i = 0; i < 8; i++) {
            all ^= (b >> i & 1) * (a << i);
        }
        for (int i = 15; i >= 8; i--) {
            all ^= (all >> i & 1) * (0b100011011 << i - 8);
        }
        return all;
    }

    private static int s(int b) {
        int c = 0;
        for (int i = 1; i < 256; i++) {
            c = product(b, i) == 1 ? i : c;
        }
        int all = 0;
        for (int i = 0; i < 8; i++) {
            int bit = 99 >> i;
            for (int j : new int[] {i, i + 4, i + 5, i + 6, i + 7}) {
                bit ^= c >> j % 8;
            }
            all |= (bit & 1) << i;
        }
        return all;
    }

    /** The largest number whose third power is not above a number of less than 120 bits. */
    private static BigInteger cubeRoot(BigInteger number) {
        BigInteger root = BigInteger.ZERO;
        for (int i = 40; i >= 0; i--) {
            BigInteger more = root.setBit(i);
            root = more.pow(3).compareTo(number) <= 0 ? more : root;
        }
        return root;
    }

    static byte[] enciphered(byte[] block, byte[] key) {
        byte[] words = words(key);
        byte[] now = xored(block, words, 0);
        for (int k = 1; k <= 10; k++) {
            byte[] moved = new byte[16];
            for (int c = 0; c < 4; c++) {
                for (int r = 0; r < 4; r++) {
                    moved[4 * c + r] = (byte) S[now[4 * ((c + r) % 4) + r] & 255];
                }
            }
            now = xored(k == 10 ? moved : mixed(moved), words, k);
        }
        return now;
    }

    /** The bytes of w0 .. w43. */
    private static byte[] words(byte[] key) {
        byte[] row = Arrays.copyOf(key, 4 * 44);
        int power = 1;
        for (int i = 4; i < 44; i++) {
            for (int j = 0; j < 4; j++) {
                int x = row[4 * (i - 1) + j] & 255;
                if (i % 4 == 0) {
                    x = S[row[4 * (i - 1) + (j + 1) % 4] & 255] ^ (j == 0 ? power : 0);
                }
                row[4 * i + j] = (byte) (row[4 * (i - 4) + j] ^ x);
            }
            power = i % 4 == 0 ? product(power, 2) : power;
        }
        return row;
    }

    private static byte[] xored(byte[] block, byte[] words, int k) {
        byte[] row = new byte[16];
        for (int i = 0; i < 16; i++) {
            row[i] = (byte) (block[i] ^ words[16 * k + i]);
        }
        return row;
    }

    private static byte[] mixed(byte[] block) {
        byte[] row = new byte[16];
        for (int i = 0; i < 16; i++) {
            int c = i / 4 * 4;
            row[i] = (byte) (product(block[i] & 255, 2) ^ product(block[c + (i + 1) % 4] & 255, 3)
                ^ block[c + (i + 2) % 4] ^ block[c + (i + 3) % 4]);
        }
        return row;
    }

    static byte[] digest(byte[]... rows) {
        byte[] bytes = Flow.join(rows);
        byte[] all = Flow.join(bytes, new byte[] {(byte) 128});
        while (all.length % 64 != 56) {
            all = Arrays.copyOf(all, all.length + 1);
        }
        all = Flow.join(all, Flow.word(0), Flow.word(8 * bytes.length));
        int[] state = FIRST_STATE.clone();
        for (int at = 0; at < all.length; at += 64) {
            mix(state, spread(all, at));
        }
        byte[] digest = new byte[0];
        for (int h : state) {
            digest = Flow.join(digest, Flow.word(h));
        }
        return digest;
    }

    private static int ror(int x, int n) {
        return Integer.rotateRight(x, n);
    }

    private static int[] spread(byte[] all, int at) {
        int[] w = new int[64];
        for (int t = 0; t < 16; t++) {
            w[t] = Flow.word(all, at + 4 * t);
        }
        for (int t = 16; t < 64; t++) {
            int s = ror(w[t - 15], 7) ^ ror(w[t - 15], 18) ^ w[t - 15] >>> 3;
            int r = ror(w[t - 2], 17) ^ ror(w[t - 2], 19) ^ w[t - 2] >>> 10;
            w[t] = w[t - 16] + s + w[t - 7] + r;
        }
        return w;
    }

    private static void mix(int[] state, int[] w) {
        int[] n = state.clone();
        for (int t = 0; t < 64; t++) {
            int a = n[0];
            int e = n[4];
            int u = n[7] + (ror(e, 6) ^ ror(e, 11) ^ ror(e, 25)) + (e & n[5] ^ ~e & n[6]) + K[t] + w[t];
            int v = (ror(a, 2) ^ ror(a, 13) ^ ror(a, 22)) + (a & n[1] ^ a & n[2] ^ n[1] & n[2]);
            System.arraycopy(n, 0, n, 1, 7);
            n[4] += u;
            n[0] = u + v;
        }
        for (int i = 0; i < 8; i++) {
            state[i] += n[i];
        }
    }

    static byte[] seal(byte[] key, byte[]... rows) {
        byte[] x = digest(xored(key, 54), Flow.join(rows));
        return digest(xored(key, 92), x);
    }

    private static byte[] xored(byte[] key, int mask) {
        byte[] row = Arrays.copyOf(key, 64);
        for (int i = 0; i < 64; i++) {
            row[i] ^= (byte) mask;
        }
        return row;
    }
}
