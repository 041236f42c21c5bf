/** A row of bits as a text of 0 and 1, put together by hand as the document tells it. */
final class Bits {
    private final StringBuilder text = new StringBuilder();

    /** The beginning of a stream. */
    static Bits head(int channels, int block, int n) {
        return new Bits().plain(8, 83).plain(8, 66).u(2, channels).u(4, block).u(6, n);
    }

    Bits raw(String bits) {
        text.append(bits);
        return this;
    }

    Bits plain(int k, int v) {
        for (int i = k - 1; i >= 0; i--) {
            text.append((v >> i) % 2 == 0 ? '0' : '1');
        }
        return this;
    }

    Bits u(int k, int v) {
        text.append("0".repeat(v / (1 << k))).append('1');
        return plain(k, v % (1 << k));
    }

    Bits s(int k, int v) {
        return u(k, v >= 0 ? 2 * v : -2 * v - 1);
    }

    /** A block that is written out: the function, k, and what is left over of each sample. */
    Bits block(int f, int k, int... rests) {
        u(2, f).u(3, k);
        for (int rest : rests) {
            s(k, rest);
        }
        return this;
    }

    Bits end() {
        return u(2, 5);
    }

    int length() {
        return text.length();
    }

    /** The bits, filled with 0s up to a whole byte. */
    String filled() {
        return text + "0".repeat((8 - text.length() % 8) % 8);
    }

    int[] bytes() {
        String bits = filled();
        int[] bytes = new int[bits.length() / 8];
        for (int i = 0; i < bytes.length; i++) {
            bytes[i] = Integer.parseInt(bits.substring(8 * i, 8 * i + 8), 2);
        }
        return bytes;
    }

    /** Feeds the bits, filled with 0s, and reads them. */
    int readBy(BlockSound x) {
        for (int b : bytes()) {
            x.feed(b);
        }
        return x.read();
    }
}
