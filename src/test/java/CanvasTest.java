/** Promises 1 to 5: a new object, canvas, draw, at, measures. */
public final class CanvasTest {
    private static final Check CHECK = new Check("CanvasTest");

    public static void main(String[] args) {
        newObject();
        canvasEdges();
        canvasOfEachSize();
        canvasClears();
        drawSlopes();
        drawNoise();
        drawEdges();
        drawOfEachDepth();
        drawAtEachCorner();
        noiseOfEachSample();
        drawRefuses();
        atRefuses();
        measuresRefuses();
        CHECK.finish();
    }

    private static void newObject() {
        NearPicture x = new NearPicture();
        for (int i = 0; i < 64; i++) {
            CHECK.same("new sample " + i, x.at(0, i % 8, i / 8), 0);
        }
        CHECK.noSuch("at right of 8", () -> x.at(0, 8, 0));
        CHECK.noSuch("at below 8", () -> x.at(0, 0, 8));
        CHECK.noSuch("at of a second plane", () -> x.at(1, 0, 0));
        CHECK.notAsSaid("a sample of 9 bits", () -> x.draw(0, 0, 0, 1, 1, 256, 0, 0));
        CHECK.same("new size", x.size(), 0);
        CHECK.noSuch("new out", () -> x.out(0));
        CHECK.noSuch("new tape", () -> x.change(0, 0));
        CHECK.notAsSaid("new tape's end", () -> x.end(1));
        CHECK.same("NONE", NearPicture.NONE, -1);
        CHECK.same("new place", x.place(), NearPicture.NONE);
        CHECK.same("pack without measures", x.pack(0), 30);
    }

    private static void canvasEdges() {
        NearPicture x = new NearPicture();
        x.canvas(1, 1, 1, 2);
        CHECK.same("least canvas", x.at(0, 0, 0), 0);
        CHECK.notAsSaid("above 2 bits", () -> x.draw(0, 0, 0, 1, 1, 4, 0, 0));
        x.canvas(64, 64, 3, 16);
        x.draw(2, 63, 63, 1, 1, 65535, 65535, 0);
        CHECK.same("last sample", x.at(2, 63, 63), 65535);
        x.measures(9, 0, 0, 0, 0);
        CHECK.notAsSaid("width 0", () -> x.canvas(0, 1, 1, 8));
        CHECK.notAsSaid("width 65", () -> x.canvas(65, 1, 1, 8));
        CHECK.notAsSaid("height 0", () -> x.canvas(1, 0, 1, 8));
        CHECK.notAsSaid("height 65", () -> x.canvas(1, 65, 1, 8));
        for (int planes : new int[] {-1, 0, 2, 4}) {
            CHECK.notAsSaid(planes + " planes", () -> x.canvas(1, 1, planes, 8));
        }
        CHECK.notAsSaid("depth 1", () -> x.canvas(1, 1, 1, 1));
        CHECK.notAsSaid("depth 17", () -> x.canvas(1, 1, 1, 17));
        CHECK.same("refused canvas changes nothing", x.at(2, 63, 63), 65535);
        CHECK.notAsSaid("refused canvas keeps measures", () -> x.pack(0));
    }

    /** Each width, height, number of planes and depth that there is, and the last sample of it. */
    private static void canvasOfEachSize() {
        NearPicture x = new NearPicture();
        for (int side = 1; side <= 64; side++) {
            int last = side - 1;
            x.canvas(side, 65 - side, side % 2 == 0 ? 1 : 3, 2 + side % 15);
            int plane = side % 2 == 0 ? 0 : 2;
            CHECK.same("last of width " + side, x.at(plane, last, 64 - side), 0);
            CHECK.noSuch("behind width " + side, () -> x.at(plane, last + 1, 0));
            CHECK.noSuch("below height " + (65 - side), () -> x.at(plane, 0, 64 - last));
            CHECK.noSuch("a plane too many", () -> x.at(plane + 1, 0, 0));
        }
    }

    private static void canvasClears() {
        NearPicture x = new NearPicture();
        x.draw(0, 0, 0, 8, 8, 200, 200, 0);
        x.measures(255, 3, 7, 21, 64);
        x.canvas(8, 8, 1, 8);
        CHECK.same("cleared", x.at(0, 7, 7), 0);
        CHECK.same("measures are gone", x.pack(0), 30);
        x.canvas(2, 3, 3, 8);
        CHECK.noSuch("narrower", () -> x.at(0, 2, 0));
        CHECK.noSuch("lower", () -> x.at(0, 0, 3));
        CHECK.same("third plane", x.at(2, 1, 2), 0);
    }

    private static void drawSlopes() {
        NearPicture x = new NearPicture();
        x.canvas(9, 7, 3, 8);
        x.draw(1, 2, 3, 4, 2, 10, 70, 0);
        for (int j = 0; j < 2; j++) {
            for (int i = 0; i < 4; i++) {
                CHECK.same("rising " + i + " " + j, x.at(1, 2 + i, 3 + j), 10 + 10 * (i + j));
            }
        }
        CHECK.same("left of it", x.at(1, 1, 3), 0);
        CHECK.same("right of it", x.at(1, 6, 3), 0);
        CHECK.same("above it", x.at(1, 2, 2), 0);
        CHECK.same("below it", x.at(1, 2, 5), 0);
        CHECK.same("another plane", x.at(0, 2, 3) + x.at(2, 2, 3), 0);
        x.draw(0, 0, 0, 4, 1, 10, 3, 0);
        int[] falling = {10, 9, 8, 6};
        int[] growing = {3, 4, 5, 7};
        for (int i = 0; i < 4; i++) {
            CHECK.same("falling is cut off " + i, x.at(0, i, 0), falling[i]);
        }
        x.draw(0, 0, 0, 4, 1, 3, 10, 0);
        for (int i = 0; i < 4; i++) {
            CHECK.same("rising is cut off " + i, x.at(0, i, 0), growing[i]);
        }
    }

    private static void drawNoise() {
        NearPicture x = new NearPicture();
        x.canvas(3, 2, 1, 16);
        x.draw(0, 0, 0, 3, 2, 100, 100, 65535);
        for (int n = 0; n < 6; n++) {
            long seed = n * 40503L + 12345;
            long noise = seed * seed >>> 7 & 65535;
            CHECK.same("noise " + n, x.at(0, n % 3, n / 3), Math.min(65535, 100 + noise));
        }
        x.draw(0, 0, 0, 2, 1, 0, 0, 5);
        CHECK.same("1190617 has of 5", x.at(0, 0, 0), 1);
        CHECK.same("21819618 has of 5", x.at(0, 1, 0), 0);
        x.canvas(2, 1, 1, 8);
        x.draw(0, 0, 0, 2, 1, 250, 250, 255);
        CHECK.same("not above the greatest", x.at(0, 0, 0), 255);
        CHECK.same("not above the greatest, either", x.at(0, 1, 0), 255);
    }

    private static void drawEdges() {
        NearPicture x = new NearPicture();
        x.draw(0, 0, 0, 8, 8, 255, 255, 0);
        CHECK.same("whole canvas", x.at(0, 7, 7) + x.at(0, 0, 0), 510);
        x.draw(0, 7, 7, 1, 1, 1, 255, 0);
        CHECK.same("its last sample", x.at(0, 7, 7), 1);
    }

    /** Samples are 0 .. 2^DEPTH - 1, and so are v and w; what the mask adds beyond that is cut. */
    private static void drawOfEachDepth() {
        NearPicture x = new NearPicture();
        for (int depth = 2; depth <= 16; depth++) {
            int greatest = (1 << depth) - 1;
            x.canvas(3, 3, 1, depth);
            x.draw(0, 0, 0, 3, 3, greatest, greatest, 0);
            CHECK.same("greatest of depth " + depth, x.at(0, 2, 2), greatest);
            x.draw(0, 0, 0, 3, 3, greatest, greatest, 65535);
            CHECK.same("no more with noise, depth " + depth, x.at(0, 2, 2), greatest);
            x.draw(0, 0, 0, 3, 3, 0, 0, 0);
            CHECK.same("least of depth " + depth, x.at(0, 2, 2), 0);
            CHECK.notAsSaid("v above depth " + depth, () -> x.draw(0, 0, 0, 1, 1, greatest + 1, 0, 0));
            CHECK.notAsSaid("w above depth " + depth, () -> x.draw(0, 0, 0, 1, 1, 0, greatest + 1, 0));
            CHECK.notAsSaid("v below 0", () -> x.draw(0, 0, 0, 1, 1, -1, 0, 0));
            CHECK.notAsSaid("w below 0", () -> x.draw(0, 0, 0, 1, 1, 0, -1, 0));
            CHECK.notAsSaid("a mask of -1", () -> x.draw(0, 0, 0, 1, 1, 0, 0, -1));
            CHECK.notAsSaid("a mask of 65536", () -> x.draw(0, 0, 0, 1, 1, 0, 0, 65536));
            CHECK.same("refused draws leave it", x.at(0, 0, 0), 0);
        }
    }

    /** A rectangle may end where the canvas does, not further; no sample beside it changes. */
    private static void drawAtEachCorner() {
        for (int i = 0; i < 4; i++) {
            NearPicture x = new NearPicture();
            x.canvas(6, 5, 3, 8);
            int left = i % 2 == 0 ? 0 : 4;
            int top = i < 2 ? 0 : 3;
            x.draw(1, left, top, 2, 2, 50, 50, 0);
            for (int j = 0; j < 3 * 30; j++) {
                int column = j % 6;
                int row = j / 6 % 5;
                boolean within = j / 30 == 1 && column >= left && column < left + 2 && row >= top && row < top + 2;
                CHECK.same("corner " + i + ", sample " + j, x.at(j / 30, column, row), within ? 50 : 0);
            }
            CHECK.noSuch("too wide, corner " + i, () -> x.draw(1, left, top, 7 - left, 1, 9, 9, 0));
            CHECK.noSuch("too high, corner " + i, () -> x.draw(1, left, top, 1, 6 - top, 9, 9, 0));
        }
    }

    /** noise(0) .. noise(4095): from 2 on what is multiplied by itself is beyond 32 bits. */
    private static void noiseOfEachSample() {
        NearPicture x = new NearPicture();
        x.canvas(64, 64, 1, 16);
        x.draw(0, 0, 0, 64, 64, 0, 0, 65535);
        for (int n = 0; n < 4096; n++) {
            long seed = n * 40503L + 12345;
            CHECK.same("noise " + n, x.at(0, n % 64, n / 64), seed * seed >> 7 & 65535);
        }
        x.draw(0, 60, 60, 4, 4, 0, 0, 65535);
        for (int n = 0; n < 16; n++) {
            long seed = n * 40503L + 12345;
            CHECK.same("noise of a small one " + n, x.at(0, 60 + n % 4, 60 + n / 4), seed * seed >> 7 & 65535);
        }
    }

    private static void drawRefuses() {
        NearPicture x = new NearPicture();
        x.draw(0, 0, 0, 8, 8, 9, 9, 0);
        int[][] nowhere = {
            {-1, 0, 0, 1, 1}, {1, 0, 0, 1, 1}, {0, -1, 0, 1, 1}, {0, 0, -1, 1, 1}, {0, 8, 0, 1, 1}, {0, 0, 8, 1, 1},
            {0, 1, 0, 8, 1}, {0, 0, 1, 1, 8}, {0, 0, 0, 9, 1}, {0, 0, 0, 1, 9}, {0, 0, 0, 0, 1}, {0, 0, 0, 1, 0},
            {0, 2, 2, -1, 1}, {0, 2, 2, 1, -1}, {0, 1, 1, Integer.MAX_VALUE, 1}, {0, 1, 1, 1, Integer.MAX_VALUE},
            {0, Integer.MAX_VALUE, 0, 1, 1}, {0, 0, Integer.MIN_VALUE, 1, 1}};
        for (int[] r : nowhere) {
            String what = "draw " + r[0] + " " + r[1] + " " + r[2] + " " + r[3] + " " + r[4];
            CHECK.noSuch(what, () -> x.draw(r[0], r[1], r[2], r[3], r[4], 1, 2, 3));
            CHECK.noSuch(what + " comes first", () -> x.draw(r[0], r[1], r[2], r[3], r[4], -1, 256, -1));
        }
        int[][] wrong = {{-1, 0, 0}, {256, 0, 0}, {0, -1, 0}, {0, 256, 0}, {0, 0, -1}, {0, 0, 65536}};
        for (int[] w : wrong) {
            CHECK.notAsSaid("draw with " + w[0] + " " + w[1] + " " + w[2], () -> x.draw(0, 0, 0, 8, 8, w[0], w[1], w[2]));
        }
        for (int i = 0; i < 64; i++) {
            CHECK.same("refused draws change nothing", x.at(0, i % 8, i / 8), 9);
        }
    }

    private static void atRefuses() {
        NearPicture x = new NearPicture();
        x.canvas(3, 5, 3, 8);
        CHECK.same("last", x.at(2, 2, 4), 0);
        int[][] nowhere = {{-1, 0, 0}, {3, 0, 0}, {0, -1, 0}, {0, 3, 0}, {0, 0, -1}, {0, 0, 5}};
        for (int[] n : nowhere) {
            CHECK.noSuch("at " + n[0] + " " + n[1] + " " + n[2], () -> x.at(n[0], n[1], n[2]));
        }
    }

    private static void measuresRefuses() {
        NearPicture x = new NearPicture();
        x.measures(255, 65535, 65535, 65535, 65535);
        x.measures(0, 0, 0, 0, 0);
        CHECK.same("all 0: none are set", x.pack(0), 30);
        x.measures(255, 3, 7, 21, 64);
        for (int i = 0; i < 5; i++) {
            int[] below = {0, 0, 0, 0, 0};
            int[] above = {0, 0, 0, 0, 0};
            below[i] = -1;
            above[i] = 65536;
            CHECK.notAsSaid("measure " + i + " of -1", () -> set(x, below));
            CHECK.notAsSaid("measure " + i + " of 65536", () -> set(x, above));
        }
        CHECK.notAsSaid("MOST above 8 bits", () -> x.measures(256, 0, 0, 0, 0));
        CHECK.same("refused measures change nothing", x.pack(0), 45);
    }

    private static void set(NearPicture x, int[] five) {
        x.measures(five[0], five[1], five[2], five[3], five[4]);
    }
}
