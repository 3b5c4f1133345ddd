import java.io.ByteArrayOutputStream;
import java.util.Arrays;

/** PACKED bytes, made by the document's words: 84, 82, NUMs, and the eight bytes of their SUM. */
final class Bytes {
    private final ByteArrayOutputStream all = new ByteArrayOutputStream();

    Bytes() {
        all.write(84);
        all.write(82);
    }

    Bytes nums(int... numbers) {
        for (int n : numbers) {
            long bits = n >= 0 ? 2L * n : -2L * n - 1;
            while (bits >= 128) {
                all.write((int) (bits % 128) + 128);
                bits /= 128;
            }
            all.write((int) bits);
        }
        return this;
    }

    /** Bytes as they are. */
    Bytes raw(int... bytes) {
        for (int v : bytes) {
            all.write(v);
        }
        return this;
    }

    int size() {
        return all.size();
    }

    byte[] packed() {
        byte[] body = all.toByteArray();
        byte[] with = Arrays.copyOf(body, body.length + 8);
        long sum = Bench.sum(body, body.length);
        for (int i = 0; i < 8; i++) {
            with[body.length + i] = (byte) (sum >>> 56 - 8 * i);
        }
        return with;
    }
}
