/** Promise 17: learned. */
public final class LearnedTest {
    private static final Check CHECK = new Check("LearnedTest");
    private static final int PLACES = 367;

    public static void main(String[] args) {
        noneYet();
        refuses();
        firstValues();
        aStop();
        halving();
        correctionLimits();
        lastPlane();
        failedUnpack();
        CHECK.finish();
    }

    private static int[] all(NearPicture x) {
        int[] values = new int[4 * PLACES];
        for (int i = 0; i < values.length; i++) {
            values[i] = x.learned(i / 4, i % 4);
        }
        return values;
    }

    private static void same(String what, int[] got, int[] due) {
        for (int i = 0; i < due.length; i++) {
            CHECK.same(what + ": place " + i / 4 + ", what " + i % 4, got[i], due[i]);
        }
    }

    private static void same(String what, NearPicture x, int place, int... four) {
        for (int i = 0; i < 4; i++) {
            CHECK.same(what + ": place " + place + ", what " + i, x.learned(place, i), four[i]);
        }
    }

    private static void noneYet() {
        NearPicture x = new NearPicture();
        same("new", all(x), new int[4 * PLACES]);
        x.unpack();
        CHECK.notAsSaid("pack refuses", () -> x.pack(-1));
        same("nothing told", all(x), new int[4 * PLACES]);
    }

    private static void refuses() {
        NearPicture x = new NearPicture();
        CHECK.noSuch("place -1", () -> x.learned(-1, 0));
        CHECK.noSuch("place 367", () -> x.learned(367, 0));
        CHECK.noSuch("no place comes first", () -> x.learned(367, 4));
        CHECK.notAsSaid("what -1", () -> x.learned(0, -1));
        CHECK.notAsSaid("what 4", () -> x.learned(366, 4));
    }

    /** Depth, MOST, NEAR, and the first A. */
    private static void firstValues() {
        int[][] cases = {{8, 0, 0, 4}, {8, 0, 2, 2}, {12, 0, 0, 64}, {16, 0, 0, 1024}, {16, 0, 255, 2}, {2, 0, 0, 2},
            {8, 159, 0, 3}, {8, 158, 0, 2}, {8, 223, 0, 4}, {8, 222, 0, 3}, {16, 0, 1, 341}};
        for (int[] c : cases) {
            NearPicture x = new NearPicture();
            x.canvas(5, 5, 1, c[0]);
            x.measures(c[1], 0, 0, 0, 0);
            x.pack(c[2]);
            int[] got = all(x);
            for (int i = 0; i < PLACES; i++) {
                CHECK.same("first A of " + c[0] + " " + c[1] + " " + c[2], got[4 * i], c[3]);
                CHECK.same("first B", got[4 * i + 1], 0);
                CHECK.same("first C", got[4 * i + 2], 0);
                CHECK.same("first N", got[4 * i + 3], 1);
            }
        }
    }

    private static void aStop() {
        NearPicture x = new NearPicture();
        x.canvas(1, 1, 1, 8);
        Rows.paint(x, 0, 1, 9);
        x.pack(0);
        same("a stop 1 above", x, 366, 4 + 8, 0, 0, 2);
        same("stop 0 is as it was", x, 365, 4, 0, 0, 1);
        Rows.paint(x, 0, 1, 250);
        x.pack(0);
        same("a stop 1 that comes round below", x, 366, 4 + 5, 1, 0, 2);
        x.canvas(2, 3, 1, 8);
        Rows.paint(x, 0, 2, 0, 0, 20, 20, 20, 20);
        x.pack(0);
        same("the first of the second row", x, 366, 4 + 19, 0, 0, 2);
        x.canvas(1, 2, 1, 8);
        Rows.paint(x, 0, 1, 9, 12);
        x.pack(0);
        // The second sample: a and b are 9, c is 0, so the slopes are 0, 9, -9; the guess is 9.
        same("a plain sample", x, 27 - 3, 4 + 3, 0, 1, 2);
    }

    /** In a row of one sample a RUN begins where the two above are the same. */
    private static void halving() {
        NearPicture x = new NearPicture();
        x.canvas(1, 4, 1, 8);
        x.measures(0, 0, 0, 0, 3);
        Rows.paint(x, 0, 1, 10, 10, 20, 20);
        x.pack(0);
        same("two stops, each with the number 19", x, 366, 4 + 9 + 9, 0, 0, 3);
        same("two samples guessed right", x, 27 - 3, 4, 0, 0, 3);
        x.canvas(1, 6, 1, 8);
        x.measures(0, 0, 0, 0, 3);
        Rows.paint(x, 0, 1, 10, 10, 20, 20, 15, 12);
        x.pack(0);
        same("a third one with the number 8", x, 366, (4 + 9 + 9 + 4) / 2, 0, 0, 2);
        same("a sample 3 below its guess, turned", x, 18 - 2, 4 + 3, 0, 1, 2);
        x.canvas(1, 7, 1, 8);
        x.measures(0, 0, 0, 0, 3);
        Rows.paint(x, 0, 1, 10, 10, 20, 20, 30, 30, 30);
        x.pack(0);
        same("three samples guessed right", x, 27 - 3, 2, 0, 0, 2);
    }

    /** One picture errs upwards at one place all the time, the other downwards: C follows as far as it may. */
    private static void correctionLimits() {
        NearPicture x = new NearPicture();
        x.canvas(64, 64, 1, 16);
        x.draw(0, 0, 0, 64, 64, 0, 65535, 0);
        CHECK.same("rising both ways", x.pack(0), 5659);
        same("C is 127", x, 356, 12320, 0, 127, 33);
        x.canvas(64, 64, 1, 16);
        for (int y = 0; y < 64; y++) {
            x.draw(0, 0, y, 64, 1, y % 2 == 0 ? 30000 : 0, y % 2 == 0 ? 0 : 30000, 0);
        }
        CHECK.same("rising and falling by turns", x.pack(0), 5956);
        same("C is -128", x, 356, 21011, -63, -128, 64);
        same("C is -128 here, too", x, 364, 27828, -35, -128, 36);
    }

    private static void lastPlane() {
        NearPicture x = new NearPicture();
        x.canvas(1, 1, 3, 8);
        x.draw(0, 0, 0, 1, 1, 9, 9, 0);
        x.draw(1, 0, 0, 1, 1, 19, 19, 0);
        x.pack(0);
        same("the last plane has no stop", x, 366, 4, 0, 0, 1);
        x.draw(2, 0, 0, 1, 1, 29, 29, 0);
        x.pack(0);
        same("the last plane has one", x, 366, 4 + 28, 0, 0, 2);
    }

    private static void failedUnpack() {
        NearPicture x = new NearPicture();
        x.canvas(1, 1, 3, 8);
        x.draw(0, 0, 0, 1, 1, 9, 9, 0);
        x.draw(1, 0, 0, 1, 1, 19, 19, 0);
        x.draw(2, 0, 0, 1, 1, 29, 29, 0);
        int size = x.pack(0);
        x.turn();
        CHECK.same("whole", x.unpack(), 0);
        same("plane 2", x, 366, 4 + 28, 0, 0, 2);
        x.end(size - 1);
        CHECK.same("cut behind plane 2", x.unpack(), 1);
        same("plane 2 was told to the end", x, 366, 4 + 28, 0, 0, 2);
        x.end(size - 4);
        CHECK.same("cut in plane 2", x.unpack(), 1);
        same("plane 1 was the last", x, 366, 4 + 18, 0, 0, 2);
        x.end(33);
        CHECK.same("cut in plane 1's scan", x.unpack(), 1);
        same("plane 0 was the last", x, 366, 4 + 8, 0, 0, 2);
        x.end(20);
        CHECK.same("cut in the frame", x.unpack(), 1);
        same("plane 0 is still the latest", x, 366, 4 + 8, 0, 0, 2);
        CHECK.notAsSaid("pack refuses", () -> x.pack(128));
        same("and stays so", x, 366, 4 + 8, 0, 0, 2);
        x.pack(0);
        same("till the next pack", x, 366, 4 + 28, 0, 0, 2);
    }
}
