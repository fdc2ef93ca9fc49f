import java.nio.ByteBuffer;
import java.security.MessageDigest;
import java.security.NoSuchAlgorithmException;
import java.util.Arrays;

/** The terms of the document, made from the Java library and not from the program. */
final class Reference {
    private Reference() {
    }

    /** THE HASH is SHA-256 over the words' bytes, the highest first. */
    static int[] hash(int[] words) {
        ByteBuffer bytes = ByteBuffer.allocate(4 * words.length);
        for (int word : words) {
            bytes.putInt(word);
        }
        try {
            ByteBuffer digest = ByteBuffer.wrap(MessageDigest.getInstance("SHA-256").digest(bytes.array()));
            int[] hash = new int[8];
            for (int i = 0; i < 8; i++) {
                hash[i] = digest.getInt();
            }
            return hash;
        } catch (NoSuchAlgorithmException e) {
            throw new IllegalStateException(e);
        }
    }

    static int zeros(int[] hash) {
        int zeros = 0;
        while (zeros < 256 && (hash[zeros / 32] << zeros % 32) >= 0) {
            zeros++;
        }
        return zeros;
    }

    /** The least nonce from first on, below end, that gives these 26 words enough zeros; -1 without one. */
    static int nonce(int[] words, int first, int end, int difficulty) {
        int[] tried = Arrays.copyOf(words, 26);
        for (int nonce = first; nonce < end; nonce++) {
            tried[25] = nonce;
            if (zeros(hash(tried)) >= difficulty) {
                return nonce;
            }
        }
        return -1;
    }

    /** STIR is MurmurHash3 (x86, 32 bits) of one block of four bytes. */
    static int stir(int x, int seed) {
        int h = seed ^ Integer.rotateLeft(x * 0xcc9e2d51, 15) * 0x1b873593;
        h = (Integer.rotateLeft(h, 13) * 5 + 0xe6546b64) ^ 4;
        h = (h ^ h >>> 16) * 0x85ebca6b;
        h = (h ^ h >>> 13) * 0xc2b2ae35;
        return h ^ h >>> 16;
    }

    static int[] filterBits(int word) {
        long first = stir(word, 0);
        long second = stir(word, 0x9747b28c);
        int[] bits = new int[4];
        for (int i = 0; i < 4; i++) {
            bits[i] = (int) Math.floorMod(first + i * second, 1024L);
        }
        return bits;
    }
}
