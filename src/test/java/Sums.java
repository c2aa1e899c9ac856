/** BOX, WEIGHTS, PADS and SUMS worked out by the document's words, apart from the program. */
final class Sums {
    static final int PRIME = 1_000_003;

    private Sums() {
    }

    private static int next(int seed) {
        return seed * 1_103_515_245 + 12_345;
    }

    private static int drawn(int seed) {
        return seed >>> 16 & 0x7FFF;
    }

    static int[] box() {
        int[] box = new int[256];
        for (int i = 0; i < 256; i++) {
            box[i] = i;
        }
        int seed = 1;
        for (int k = 255; k >= 1; k--) {
            seed = next(seed);
            int other = drawn(seed) % (k + 1);
            int moved = box[k];
            box[k] = box[other];
            box[other] = moved;
        }
        return box;
    }

    static int[] weights(int key) {
        int[] weights = new int[11];
        int seed = key;
        for (int k = 0; k < 11; k++) {
            seed = next(seed);
            weights[k] = 1 + 30 * drawn(seed);
        }
        return weights;
    }

    static int pad(int key, int line, int version) {
        int[] box = box();
        int place = 1024 * line + version;
        int pad = 0;
        for (int i = 0; i < 4; i++) {
            int one = key >>> 8 * i & 255;
            int other = key >>> 8 * ((i + 1) % 4) & 255;
            pad |= box[(box[(place + one) % 256] + place / 256 + other) % 256] << 8 * i;
        }
        return pad;
    }

    static int lineSum(int[] weights, int[] bytes, int line, int version) {
        long sum = (long) weights[4] * (1024L * line + version);
        for (int i = 0; i < 4; i++) {
            sum += (long) weights[i] * bytes[i];
        }
        return (int) (sum % PRIME);
    }

    /** row: MAJOR and minors. */
    static int nodeSum(int[] weights, int[] row, int node, int version, int epoch) {
        long sum = weights[10] * (63_488L * epoch + 1024L * node + version);
        for (int j = 0; j < row.length; j++) {
            sum += (long) weights[5 + j] * row[j];
        }
        return (int) (sum % PRIME);
    }

    static int[] bytesOf(FreshLines x, int line) {
        return new int[] {x.line(line, 0), x.line(line, 1), x.line(line, 2), x.line(line, 3)};
    }

    /** Flips (a WORK) by which a LINE is RIGHT by that VERSION, whatever it was, with the SUM that lies there. */
    static String forge(FreshLines x, int key, int line, int version) {
        return forge(x, key, line, version, -1, 0);
    }

    /** Likewise, were byte i that number; it stays what it is. */
    static String forge(FreshLines x, int key, int line, int version, int i, int number) {
        int[] weights = weights(key);
        int[] old = bytesOf(x, line);
        int sum = x.line(line, 4);
        int last = i == 3 ? 2 : 3;
        int[] bytes = new int[4];
        for (int all = 0; all < 1 << 24; all++) {
            bytes[0] = all & 255;
            bytes[1] = all >> 8 & 255;
            bytes[2] = all >> 16;
            bytes[3] = 0;
            if (i >= 0) {
                bytes[i] = number;
            }
            bytes[last] = 0;
            int lack = (sum - lineSum(weights, bytes, line, version) + 2 * PRIME) % PRIME;
            for (int b = 0; b < 256; b++) {
                if ((long) weights[last] * b % PRIME == lack) {
                    bytes[last] = b;
                    if (i >= 0) {
                        bytes[i] = old[i];
                    }
                    return flips(line, old, bytes);
                }
            }
        }
        throw new IllegalStateException("no bytes");
    }

    private static String flips(int line, int[] old, int[] bytes) {
        StringBuilder text = new StringBuilder();
        for (int i = 0; i < 4; i++) {
            if (old[i] != bytes[i]) {
                text.append("flip ").append(line).append(' ').append(i).append(' ').append(old[i] ^ bytes[i]).append(';');
            }
        }
        return text.toString();
    }
}
