import java.util.Arrays;

/** Promises 6 to 8: pack, size, out. */
public final class PackTest {
    private static final Check CHECK = new Check("PackTest");
    private static final int[] TRIAL = {0, 0, 90, 74, 68, 50, 43, 205, 64, 145, 145, 145, 100, 145, 145, 145};
    private static final int[] TRIAL_DATA = {
        0xC0, 0x00, 0x00, 0x6C, 0x80, 0x20, 0x8E, 0x01, 0xC0, 0x00, 0x00, 0x57, 0x40, 0x00, 0x00, 0x6E,
        0xE6, 0x00, 0x00, 0x01, 0xBC, 0x18, 0x00, 0x00, 0x05, 0xD8, 0x00, 0x00, 0x91, 0x60};

    public static void main(String[] args) {
        trialPicture();
        planesAndDepth();
        planesBeginAnew();
        measuresSection();
        endOfData();
        longRuns();
        edgesDownwards();
        plainMeasures();
        plainBehindTold();
        refusals();
        samplesAboveMost();
        outRefuses();
        CHECK.finish();
    }

    private static void sameRow(String what, int[] got, int[] due) {
        CHECK.holds(what + ": " + Arrays.toString(got) + " is " + Arrays.toString(due), Arrays.equals(got, due));
    }

    private static void sameOut(String what, NearPicture x, int size, int[] due) {
        CHECK.same(what + ": bytes", size, due.length);
        CHECK.same(what + ": size", x.size(), due.length);
        sameRow(what, Rows.out(x), due);
    }

    /** The worked picture of ITU-T T.87, annex H, whose bytes are known from elsewhere. */
    private static void trialPicture() {
        NearPicture x = new NearPicture();
        x.canvas(4, 4, 1, 8);
        Rows.paint(x, 0, 4, TRIAL);
        int[] due = Rows.join(Rows.BEGIN, Rows.frame(8, 4, 4, 1), Rows.scan(1, 0, TRIAL_DATA), Rows.END);
        sameOut("trial picture", x, x.pack(0), due);
        CHECK.same("packing leaves the canvas", x.at(0, 3, 1), 205);
        sameOut("packed again", x, x.pack(0), due);
    }

    private static void planesAndDepth() {
        NearPicture x = new NearPicture();
        x.canvas(3, 1, 3, 12);
        int[] due = Rows.join(Rows.BEGIN, Rows.frame(12, 3, 1, 1, 2, 3),
            Rows.scan(1, 5, 0xE0), Rows.scan(2, 5, 0xE0), Rows.scan(3, 5, 0xE0), Rows.END);
        sameOut("three planes", x, x.pack(5), due);
    }

    /** Three planes with the same samples have the same DATA, which are those of one plane alone. */
    private static void planesBeginAnew() {
        for (int near : new int[] {0, 4}) {
            int[] one = Rows.out(drawnOn(1, near));
            int[] data = Arrays.copyOfRange(one, 25, one.length - 2);
            int[] due = Rows.join(Rows.BEGIN, Rows.frame(8, 20, 20, 1, 2, 3),
                Rows.scan(1, near, data), Rows.scan(2, near, data), Rows.scan(3, near, data), Rows.END);
            sameRow("three planes alike, NEAR " + near, Rows.out(drawnOn(3, near)), due);
        }
    }

    private static NearPicture drawnOn(int planes, int near) {
        NearPicture x = new NearPicture();
        x.canvas(20, 20, planes, 8);
        for (int plane = 0; plane < planes; plane++) {
            x.draw(plane, 0, 0, 20, 20, 10, 240, 15);
            x.draw(plane, 2, 7, 16, 9, 80, 80, 0);
        }
        x.pack(near);
        return x;
    }

    private static void measuresSection() {
        NearPicture x = new NearPicture();
        x.canvas(4, 1, 1, 16);
        x.measures(0x1234, 0, 0x0102, 0, 0x0203);
        int[] due = Rows.join(Rows.BEGIN, Rows.frame(16, 4, 1, 1), Rows.measures(0x1234, 0, 0x0102, 0, 0x0203),
            Rows.scan(1, 0, 0xF0), Rows.END);
        sameOut("measures as they were set", x, x.pack(0), due);
        for (int i = 0; i < 5; i++) {
            int[] five = {0, 0, 0, 0, 0};
            five[i] = 300;
            x.measures(five[0], five[1], five[2], five[3], five[4]);
            CHECK.same("measure " + i + " alone", x.pack(0), due.length);
        }
        x.measures(0, 0, 0, 0, 0);
        CHECK.same("no section for all 0", x.pack(0), due.length - 15);
    }

    private static void endOfData() {
        NearPicture x = new NearPicture();
        x.canvas(4, 3, 1, 8);
        int[] full = Rows.join(Rows.BEGIN, Rows.frame(8, 4, 3, 1), Rows.scan(1, 0, 255, 0), Rows.END);
        sameOut("a full last byte", x, x.pack(0), full);
        x.canvas(8, 2, 1, 8);
        int[] stuffed = Rows.join(Rows.BEGIN, Rows.frame(8, 8, 2, 1), Rows.scan(1, 0, 255, 64), Rows.END);
        sameOut("a bit behind a full byte", x, x.pack(0), stuffed);
        x.canvas(1, 1, 3, 8);
        int[] planes = Rows.join(Rows.BEGIN, Rows.frame(8, 1, 1, 1, 2, 3),
            Rows.scan(1, 0, 128), Rows.scan(2, 0, 128), Rows.scan(3, 0, 128), Rows.END);
        sameOut("each plane begins a byte", x, x.pack(0), planes);
    }

    /** Rows of the same samples take the PACE to 22, as far as 64 samples in a row can. */
    private static void longRuns() {
        NearPicture x = new NearPicture();
        x.canvas(64, 7, 1, 8);
        x.draw(0, 40, 5, 1, 1, 9, 9, 0);
        x.draw(0, 20, 6, 1, 1, 9, 9, 0);
        int[] due = Rows.join(Rows.BEGIN, Rows.frame(8, 64, 7, 1),
            Rows.scan(1, 0, 255, 127, 255, 74, 2, 134, 148, 36, 136), Rows.END);
        sameOut("long runs", x, x.pack(0), due);
    }

    /** Every row is stopped where the one above was, by a sample that is guessed right, till k of the STOP is 0. */
    private static void edgesDownwards() {
        NearPicture x = new NearPicture();
        x.canvas(6, 8, 1, 8);
        x.draw(0, 3, 0, 3, 8, 100, 100, 0);
        int[] due = Rows.join(Rows.BEGIN, Rows.frame(8, 6, 8, 1),
            Rows.scan(1, 0, 224, 0, 0, 56, 210, 217, 219, 109, 231, 123, 192), Rows.END);
        sameOut("edges downwards", x, x.pack(0), due);
        CHECK.same("A of STOP 0", x.learned(365, 0), 4);
        CHECK.same("N of STOP 0", x.learned(365, 3), 8);
        x.turn();
        CHECK.same("and back", x.unpack(), 0);
        CHECK.same("left of the edge", x.sample(0, 2, 7), 0);
        CHECK.same("right of the edge", x.sample(0, 3, 7), 100);
    }

    /** Depth, MOST (0: the greatest), NEAR, and the T1, T2, T3 that are plain for them. */
    private static final int[][] PLAIN = {
        {8, 0, 0, 3, 7, 21}, {8, 0, 2, 9, 17, 35}, {8, 128, 0, 3, 7, 21}, {8, 127, 0, 2, 3, 10}, {8, 127, 5, 16, 28, 45},
        {12, 0, 0, 18, 67, 276}, {16, 0, 0, 18, 67, 276}, {10, 0, 3, 15, 34, 93}, {10, 640, 0, 5, 15, 55},
        {10, 639, 0, 4, 11, 38}, {4, 0, 0, 2, 3, 4}, {4, 0, 7, 8, 8, 8}, {4, 0, 2, 6, 10, 15}, {2, 0, 0, 2, 3, 3},
        {2, 0, 1, 3, 3, 3}, {2, 2, 0, 2, 2, 2}, {2, 1, 0, 1, 1, 1}, {8, 0, 127, 128, 128, 128}, {6, 0, 0, 2, 3, 5},
        {7, 0, 10, 31, 53, 80}, {8, 0, 40, 123, 207, 207}, {8, 0, 30, 93, 157, 231}, {8, 85, 0, 2, 3, 10},
        {8, 84, 0, 2, 3, 7}};

    private static void plainMeasures() {
        for (int[] p : PLAIN) {
            int most = p[1] == 0 ? (1 << p[0]) - 1 : p[1];
            String what = "depth " + p[0] + ", most " + p[1] + ", near " + p[2];
            int[] plain = dataWith(p[0], most, p[2], p[1], 0, 0, 0, 0);
            sameRow(what, plain, dataWith(p[0], most, p[2], most, p[3], p[4], p[5], 64));
        }
    }

    private static void plainBehindTold() {
        sameRow("T2 and T3 behind T1", dataWith(8, 255, 0, 0, 9, 0, 0, 0), dataWith(8, 255, 0, 0, 9, 9, 21, 0));
        sameRow("T3 behind T2", dataWith(8, 255, 0, 0, 0, 30, 0, 0), dataWith(8, 255, 0, 0, 3, 30, 30, 0));
        sameRow("T1 before T2", dataWith(8, 255, 0, 0, 0, 5, 6, 0), dataWith(8, 255, 0, 0, 3, 5, 6, 0));
    }

    /** DATA of a picture that meets all GRADES, with these measures. */
    private static int[] dataWith(int depth, int most, int near, int... five) {
        NearPicture x = new NearPicture();
        x.canvas(40, 24, 1, depth);
        x.draw(0, 0, 0, 40, 24, 0, most, 0);
        x.draw(0, 3, 2, 30, 18, 0, most / 3, most / 2);
        x.draw(0, 8, 5, 20, 9, most / 4, most / 4, Integer.highestOneBit(most) / 4);
        for (int y = 0; y < 24; y++) {
            for (int i = 0; i < 4; i++) {
                int px = (7 * y + 11 * i) % 40;
                x.draw(0, px, y, 1, 1, Math.min(most, (y * y + 3 * i) % (most + 1)), 0, 0);
            }
        }
        clipTo(x, most);
        x.measures(five[0], five[1], five[2], five[3], five[4]);
        x.pack(near);
        int[] out = Rows.out(x);
        boolean told = five[0] + five[1] + five[2] + five[3] + five[4] != 0;
        return Arrays.copyOfRange(out, told ? 40 : 25, out.length);
    }

    private static void clipTo(NearPicture x, int most) {
        for (int i = 0; i < 40 * 24; i++) {
            if (x.at(0, i % 40, i / 40) > most) {
                x.draw(0, i % 40, i / 40, 1, 1, most, most, 0);
            }
        }
    }

    private static void refuseAndStay(NearPicture x, String what, int near) {
        int[] before = Rows.out(x);
        CHECK.notAsSaid(what, () -> x.pack(near));
        sameRow(what + " leaves OUT", Rows.out(x), before);
    }

    private static void refusals() {
        NearPicture x = new NearPicture();
        CHECK.same("pack", x.pack(0), 30);
        refuseAndStay(x, "NEAR -1", -1);
        refuseAndStay(x, "NEAR 128 of 255", 128);
        CHECK.holds("NEAR 127 of 255", x.pack(127) > 0);
        x.canvas(8, 8, 1, 16);
        refuseAndStay(x, "NEAR 256", 256);
        refuseAndStay(x, "NEAR greatest", Integer.MAX_VALUE);
        refuseAndStay(x, "NEAR least", Integer.MIN_VALUE);
        CHECK.holds("NEAR 255", x.pack(255) > 0);
        x.canvas(8, 8, 1, 8);
        x.measures(100, 0, 0, 0, 0);
        refuseAndStay(x, "NEAR 51 of 100", 51);
        CHECK.holds("NEAR 50 of 100", x.pack(50) > 0);
        int[][] wrong = {
            {0, 3, 8, 7, 0}, {0, 8, 7, 9, 0}, {0, 0, 0, 256, 0}, {0, 0, 256, 0, 0}, {0, 256, 0, 0, 0}, {0, 0, 2, 0, 0},
            {0, 0, 0, 6, 0}, {0, 0, 0, 0, 2}, {0, 0, 0, 0, 1}, {0, 0, 0, 0, 256}, {9, 1, 2, 10, 0}, {100, 0, 0, 0, 256}};
        for (int[] w : wrong) {
            x.measures(w[0], w[1], w[2], w[3], w[4]);
            refuseAndStay(x, "measures " + Arrays.toString(w), 0);
        }
        int[][] right = {{0, 1, 1, 1, 3}, {0, 255, 255, 255, 255}, {0, 1, 1, 255, 0}, {3, 1, 2, 3, 255}, {1, 1, 1, 1, 0}};
        for (int[] r : right) {
            x.measures(r[0], r[1], r[2], r[3], r[4]);
            CHECK.holds("measures " + Arrays.toString(r), x.pack(0) > 0);
        }
        x.measures(0, 3, 7, 21, 0);
        CHECK.holds("T1 above NEAR 2", x.pack(2) > 0);
        refuseAndStay(x, "T1 not above NEAR 3", 3);
        x.canvas(8, 8, 1, 9);
        x.measures(300, 0, 0, 0, 300);
        CHECK.holds("HALVING is MOST", x.pack(0) > 0);
        x.measures(300, 0, 0, 0, 301);
        refuseAndStay(x, "HALVING above MOST", 0);
    }

    private static void samplesAboveMost() {
        NearPicture x = new NearPicture();
        x.canvas(5, 4, 3, 8);
        x.draw(2, 4, 3, 1, 1, 101, 101, 0);
        x.measures(100, 0, 0, 0, 0);
        refuseAndStay(x, "a sample above MOST", 0);
        x.measures(101, 0, 0, 0, 0);
        CHECK.holds("none above MOST", x.pack(0) > 0);
        x.canvas(2, 2, 1, 8);
        x.draw(0, 0, 0, 1, 1, 101, 101, 0);
        x.measures(100, 0, 0, 0, 0);
        refuseAndStay(x, "the first sample above MOST", 0);
        x.canvas(2, 2, 1, 8);
        x.measures(100, 0, 0, 0, 0);
        CHECK.holds("what an earlier canvas had does not count", x.pack(0) > 0);
    }

    private static void outRefuses() {
        NearPicture x = new NearPicture();
        CHECK.noSuch("nothing there", () -> x.out(0));
        x.pack(0);
        CHECK.same("first", x.out(0), 255);
        CHECK.same("last", x.out(29), 217);
        CHECK.noSuch("before", () -> x.out(-1));
        CHECK.noSuch("behind", () -> x.out(30));
        x.canvas(1, 1, 1, 2);
        CHECK.same("a new canvas leaves OUT", x.size(), 30);
        x.pack(0);
        CHECK.same("shorter", x.size(), 28);
        CHECK.noSuch("behind the shorter one", () -> x.out(28));
    }
}
