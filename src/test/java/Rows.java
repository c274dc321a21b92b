import java.util.Arrays;

/** Rows of bytes: their parts, how they get onto a TAPE, and what stands in OUT. */
final class Rows {
    static final int[] BEGIN = {255, 216};
    static final int[] END = {255, 217};

    private Rows() {
    }

    static int[] join(int[]... parts) {
        int[] all = new int[0];
        for (int[] part : parts) {
            int from = all.length;
            all = Arrays.copyOf(all, from + part.length);
            System.arraycopy(part, 0, all, from, part.length);
        }
        return all;
    }

    static int[] row(int... bytes) {
        return bytes;
    }

    static int[] frame(int depth, int width, int height, int... names) {
        int[] head = {255, 247, 0, 8 + 3 * names.length, depth, 0, height, 0, width, names.length};
        for (int name : names) {
            head = join(head, row(name, 17, 0));
        }
        return head;
    }

    static int[] measures(int... five) {
        int[] section = {255, 248, 0, 13, 1};
        for (int measure : five) {
            section = join(section, row(measure >> 8, measure & 255));
        }
        return section;
    }

    static int[] scan(int name, int near, int... data) {
        return join(row(255, 218, 0, 8, 1, name, 0, near, 0, 0), data);
    }

    /** Makes the TAPE just these bytes. */
    static void type(NearPicture x, int... bytes) {
        x.end(0);
        int[] padded = Arrays.copyOf(bytes, (bytes.length + 19) / 20 * 20);
        for (int i = 0; i < padded.length; i += 20) {
            x.feed(four(padded, i), four(padded, i + 4), four(padded, i + 8), four(padded, i + 12), four(padded, i + 16));
        }
        x.end(bytes.length);
    }

    private static int four(int[] bytes, int i) {
        return bytes[i] << 24 | bytes[i + 1] << 16 | bytes[i + 2] << 8 | bytes[i + 3];
    }

    static int[] out(NearPicture x) {
        int[] bytes = new int[x.size()];
        for (int i = 0; i < bytes.length; i++) {
            bytes[i] = x.out(i);
        }
        return bytes;
    }

    /** Draws samples one by one, row by row. */
    static void paint(NearPicture x, int plane, int width, int... samples) {
        for (int i = 0; i < samples.length; i++) {
            x.draw(plane, i % width, i / width, 1, 1, samples[i], samples[i], 0);
        }
    }
}
