import java.util.Arrays;

/**
 * Pictures of one plane and the bits of their DATA: packing must make these bits, and unpacking must
 * read them.
 */
final class Tell {
    private final Check check;
    private final int depth;
    private final int width;
    private final int[] five;
    private final int near;

    /** The measures are MOST, T1, T2, T3, HALVING, or none. */
    Tell(Check check, int depth, int width, int near, int... five) {
        this.check = check;
        this.depth = depth;
        this.width = width;
        this.near = near;
        this.five = five;
    }

    int[] row(int height, String... bits) {
        int[] measures = five.length == 0 ? new int[0] : Rows.measures(five);
        return Rows.join(Rows.BEGIN, Rows.frame(depth, width, height, 1), measures,
            Rows.scan(1, near, Bits.data(bits)), Rows.END);
    }

    /** An object whose canvas has these samples, packed. */
    NearPicture pack(int... samples) {
        NearPicture x = new NearPicture();
        x.canvas(width, samples.length / width, 1, depth);
        Rows.paint(x, 0, width, samples);
        if (five.length != 0) {
            x.measures(five[0], five[1], five[2], five[3], five[4]);
        }
        x.pack(near);
        return x;
    }

    NearPicture packs(String what, int[] samples, String... bits) {
        NearPicture x = pack(samples);
        int[] due = row(samples.length / width, bits);
        int[] got = Rows.out(x);
        check.holds(what + ": OUT is " + Arrays.toString(got) + ", due is " + Arrays.toString(due), Arrays.equals(got, due));
        return x;
    }

    NearPicture reads(String what, int[] samples, String... bits) {
        NearPicture x = new NearPicture();
        Rows.type(x, row(samples.length / width, bits));
        check.same(what + ": unpack", x.unpack(), 0);
        check.same(what + ": place", x.place(), NearPicture.NONE);
        if (x.place() == NearPicture.NONE) {
            for (int i = 0; i < samples.length; i++) {
                check.same(what + ": sample " + i, x.sample(0, i % width, i / width), samples[i]);
            }
        }
        return x;
    }

    /** Samples that come back as they are: with NEAR 0, or such as are told so. */
    NearPicture bothWays(String what, int[] samples, String... bits) {
        reads(what + ", read", samples, bits);
        return packs(what, samples, bits);
    }

    /** The FAULT of these bits, and its byte counted from the first one of the DATA. */
    void fails(String what, int height, int fault, int byteOfData, String... bits) {
        NearPicture x = new NearPicture();
        int[] row = row(height, bits);
        Rows.type(x, row);
        check.same(what + ": unpack", x.unpack(), fault);
        int first = row.length - 2 - Bits.data(bits).length;
        check.same(what + ": place", x.place(), first + byteOfData);
    }
}
