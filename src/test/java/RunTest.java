import java.util.Arrays;

/** The edges of RUNS: how long they are, the PACE, and the STOPS. */
public final class RunTest {
    private static final Check CHECK = new Check("RunTest");
    /** How many samples are done with so many bits 1, from PACE 0 on. */
    private static final int[] DONE = {0, 1, 2, 3, 4, 6, 8, 10, 12, 16, 20, 24, 28, 36, 44, 52, 60, 76};
    private static final int[] BITS = {0, 0, 0, 0, 1, 1, 1, 1, 2, 2, 2, 2, 3, 3, 3, 3, 4, 4};

    public static void main(String[] args) {
        runsToTheEndOfARow();
        runsThatAreStopped();
        paceOfRowsThatEnd();
        paceBehindStops();
        paceIsNotBelowZero();
        runsWithNear();
        stopsOfEachKind();
        stopsWithNear();
        halfOfNMore();
        numbersOfStopOne();
        numbersOfStopZero();
        stopsAreHalved();
        tooManySamples();
        CHECK.finish();
    }

    private static Tell plain(int width) {
        return new Tell(CHECK, 8, width, 0);
    }

    private static void met(String what, NearPicture x, int place, int a, int m, int n) {
        int[] due = {a, m, 0, n};
        for (int i = 0; i < 4; i++) {
            CHECK.same(what + ": place " + place + ", what " + i, x.learned(place, i), due[i]);
        }
    }

    private static int pace(int samples) {
        int pace = 0;
        while (DONE[pace + 1] <= samples) {
            pace++;
        }
        return pace;
    }

    /** One bit 1 more if some are left. */
    private static void runsToTheEndOfARow() {
        for (int width = 1; width <= 64; width++) {
            int pace = pace(width);
            String bits = Bits.ones(DONE[pace] == width ? pace : pace + 1);
            plain(width).bothWays("a row of " + width, new int[width], bits);
        }
    }

    /** The last sample stops the run: what is left is told in J bits, and the number's limit is so many less. */
    private static void runsThatAreStopped() {
        for (int n = 0; n < 64; n++) {
            int pace = pace(n);
            int j = BITS[pace];
            String run = Bits.ones(pace) + "0" + Bits.low(n - DONE[pace], j);
            int[] samples = new int[n + 1];
            samples[n] = 9;
            NearPicture x = plain(n + 1).bothWays("9 behind " + n, samples, run, Bits.number(17, 2, 31 - j, 8));
            met("9 behind " + n, x, 366, 4 + 8, 0, 2);
            // 200 is an error of -56, so the number 110: with k 2 that is 27, which is above each limit.
            samples[n] = 200;
            x = plain(n + 1).bothWays("200 behind " + n, samples, run, Bits.zeros(22 - j), "1", Bits.low(109, 8));
            met("200 behind " + n, x, 366, 4 + 55, 1, 2);
            plain(n + 1).fails("a bit 0 too many behind " + n, 1, 7, (run.length() + run.length() / 9) / 8, run, Bits.zeros(23 - j), "1");
        }
    }

    /** The PACE stays where a bit 1 tells what is left, and grows where it tells all. */
    private static void paceOfRowsThatEnd() {
        plain(5).bothWays("rows of 5", new int[20], "1111 1", "11 1", "11 1", "1 1");
        plain(6).bothWays("rows of 6", new int[24], "1111 1", "111", "1 1", "1 1");
        plain(4).bothWays("rows of 4", new int[20], "1111", "11", "11", "1", "1");
        plain(3).bothWays("rows of 3", new int[15], "111", "11", "11", "11", "1 1");
    }

    /** PACE 4 behind four samples, 3 behind the stop: one sample more is done by a bit 1, the next is left. */
    private static void paceBehindStops() {
        int[] samples = {0, 0, 0, 0, 9, 0, 0, 0, 9};
        plain(9).bothWays("1 less behind a stop", samples, "1111", "0 0", Bits.number(17, 2, 30, 8), Bits.number(18, 2, 32, 8),
            "1", "0 1", Bits.number(17, 3, 30, 8));
    }

    private static void paceIsNotBelowZero() {
        int[] samples = {9, 0, 9, 0, 0, 9};
        // The second sample errs by 9 and makes C 1, so that the fourth is guessed as 8 and errs by 8.
        plain(6).bothWays("stops at PACE 0", samples, "0", Bits.number(17, 2, 31, 8), Bits.number(18, 2, 32, 8),
            "0", Bits.number(17, 3, 31, 8), Bits.number(16, 3, 32, 8), "1", "0", Bits.number(17, 3, 31, 8));
    }

    /** Samples up to NEAR away from a belong to it, and are told as a. */
    private static void runsWithNear() {
        Tell near = new Tell(CHECK, 8, 5, 2);
        String bits = "1111" + "0 0" + Bits.number(1, 1, 30, 6);
        near.packs("up to 2", new int[] {2, 0, 1, 2, 3}, bits);
        near.reads("up to 2", new int[] {0, 0, 0, 0, 5}, bits);
        near.packs("7 is told as 5, too", new int[] {2, 0, 1, 2, 7}, bits);
    }

    /** The row above ends with another sample, which the stop has for b. */
    private static void stopsOfEachKind() {
        // First row: three samples, then 1; PACE 2 behind the stop. Second row: two, one left of PACE 4.
        String start = "111" + "0" + Bits.number(1, 2, 31, 8) + "11" + "0 1";
        int[][] above = {{1, 0, 0, 0}, {2, 2, 1, 0}, {4, 6, 3, 0}, {255, 3, 2, 1}, {200, 114 - 1, 57, 1}};
        for (int[] s : above) {
            NearPicture x = plain(4).bothWays("b is 1, then " + s[0], new int[] {0, 0, 0, 1, 0, 0, 0, s[0]}, start,
                Bits.number(s[1], 2, 30, 8));
            met("STOP 0, " + s[0], x, 365, 4 + s[2], s[3], 2);
            met("STOP 1, " + s[0], x, 366, 4, 0, 2);
        }
        // b is 0 as is a: STOP 1.
        NearPicture same = plain(3).bothWays("b is a", new int[] {0, 0, 0, 0, 0, 7}, "111", "1 0 1", Bits.number(13, 2, 30, 8));
        met("STOP 1", same, 366, 4 + 6, 0, 2);
        met("STOP 0", same, 365, 4, 0, 1);
        turnedStops();
    }

    /** a is above b, so that the error is turned round. */
    private static void turnedStops() {
        String first = "0" + Bits.number(9, 2, 31, 8) + Bits.number(0, 2, 32, 8) + Bits.number(0, 1, 32, 8) + Bits.number(2, 1, 32, 8);
        // Second row: 5 is right at PLACE 16 - 2; then two of a run, and the stop with b of 4 and a of 5.
        String second = Bits.number(0, 2, 32, 8) + "11" + "0";
        int[][] stops = {{3, 2, 1, 0}, {6, 3, 2, 1}, {4, 0, 0, 0}, {0, 8, 4, 0}, {9, 9, 5, 1}};
        for (int[] s : stops) {
            int[] samples = {5, 5, 5, 4, 5, 5, 5, s[0]};
            NearPicture x = plain(4).bothWays("turned, " + s[0], samples, first, second, Bits.number(s[1], 2, 31, 8));
            met("turned, " + s[0], x, 365, 4 + s[2], s[3], 2);
        }
    }

    /** NEAR 1: the row above falls by 1 from 27 on, and a is 27: b of 26 is STOP 1, b of 25 STOP 0. */
    private static void stopsWithNear() {
        Tell five = new Tell(CHECK, 8, 5, 1, 0, 3, 4, 5, 0);
        NearPicture x = five.pack(30, 27, 26, 25, 24, 30, 27, 29, 29, 29);
        CHECK.same("a - b is NEAR: STOP 1", x.learned(366, 3), 1 + 2);
        CHECK.same("and not STOP 0", x.learned(365, 3), 1);
        x = five.pack(30, 27, 26, 25, 24, 30, 27, 27, 29, 29);
        CHECK.same("a - b is NEAR + 1: STOP 0", x.learned(365, 3), 1 + 1);
        CHECK.same("and not STOP 1", x.learned(366, 3), 1 + 1);
        x = five.pack(30, 27, 26, 25, 24, 30, 27, 28, 26, 29);
        CHECK.same("one at the end of the row", x.learned(365, 3), 1 + 1);
    }

    /** k of STOP 1 is that of A and half N. */
    private static void halfOfNMore() {
        // A 8 and N 2: with 1 more k is 3, not 2.
        int[] two = {5, 0, 5};
        plain(3).bothWays("A 8, N 2", two, "0", Bits.number(9, 2, 31, 8), Bits.number(10, 2, 32, 8), "0", Bits.number(9, 3, 31, 8));
        // A 11 and N 3: half of 3 is 1, and k is 2, not 3.
        int[] three = {5, 0, 4, 0, 5};
        plain(5).bothWays("A 11, N 3", three, "0", Bits.number(9, 2, 31, 8), Bits.number(10, 2, 32, 8),
            "0", Bits.number(7, 3, 31, 8), Bits.number(6, 3, 32, 8), "0", Bits.number(9, 2, 31, 8));
        // A 12 and N 3: 13, so k is 3.
        int[] more = {5, 0, 5, 0, 5};
        plain(5).bothWays("A 12, N 3", more, "0", Bits.number(9, 2, 31, 8), Bits.number(10, 2, 32, 8),
            "0", Bits.number(9, 3, 31, 8), Bits.number(8, 3, 32, 8), "0", Bits.number(9, 3, 31, 8));
    }

    /**
     * MOST 100: stops by 1 and by 100, which is an error of -1, leave A 2. Behind two of them k is 0.
     * A 0 follows each of them: behind a 1 at PLACE 1, behind a 100 at PLACE 4.
     */
    private static String start(int... stops) {
        String[] behindOne = {Bits.number(2, 1, 30, 7), Bits.number(0, 1, 30, 7), Bits.number(0, 0, 30, 7)};
        String behindMost = Bits.number(1, 1, 30, 7);
        int ones = 0;
        int below = 0;
        StringBuilder bits = new StringBuilder();
        for (int i = 0; i < stops.length; i++) {
            boolean swapped = i >= 2 && 2 * below < i + 1;
            boolean isBelow = stops[i] == 100;
            int m = isBelow == swapped ? 1 : 0;
            bits.append("0").append(Bits.number(i < 2 ? isBelow ? 0 : 1 : m, i < 2 ? 1 : 0, 29, 7));
            bits.append(isBelow ? behindMost : behindOne[ones]);
            ones += isBelow ? 0 : 1;
            below += isBelow ? 1 : 0;
        }
        return bits.toString();
    }

    /** The sample that stops, and its number where 2 M is below N, and where it is not. */
    private static final int[][] STOP_ONE = {{1, 0, 1}, {100, 1, 0}, {2, 2, 3}, {99, 3, 2}, {50, 98, 99}, {51, 99, 98}};

    private static void numbersOfStopOne() {
        int[][] seldom = {{1, 1}, {1, 100}, {100, 1}, {1, 1, 1}, {1, 1, 100}, {100, 1, 1}};
        int[][] often = {{100, 100}, {1, 100, 100}, {100, 1, 100}, {100, 100, 1}, {100, 100, 100}};
        for (int[] s : STOP_ONE) {
            for (int[] stops : seldom) {
                stopBehind(stops, s[0], s[1]);
            }
            for (int[] stops : often) {
                stopBehind(stops, s[0], s[2]);
            }
            // k is 1 behind one stop: as if 2 M were not below N.
            stopWithOneBit(s[0], s[2], 1);
            stopWithOneBit(s[0], s[2], 100);
        }
    }

    private static int[] samplesOf(int[] stops, int last) {
        int[] samples = new int[2 * stops.length + 1];
        for (int i = 0; i < stops.length; i++) {
            samples[2 * i] = stops[i];
        }
        samples[2 * stops.length] = last;
        return samples;
    }

    private static void stopBehind(int[] stops, int last, int number) {
        int[] samples = samplesOf(stops, last);
        Tell tell = new Tell(CHECK, 8, samples.length, 0, 100, 2, 2, 50, 0);
        String what = "STOP 1 in " + Arrays.toString(samples);
        tell.bothWays(what, samples, start(stops), "0", Bits.number(number, 0, 29, 7));
    }

    private static void stopWithOneBit(int last, int number, int first) {
        int[] samples = {first, 0, last};
        Tell tell = new Tell(CHECK, 8, 3, 0, 100, 2, 2, 50, 0);
        tell.bothWays("k is 1 in " + Arrays.toString(samples), samples, start(first), "0", Bits.number(number, 1, 29, 7));
    }

    /** Rows of 0, 0 and another sample, which errs by so much: k is 1 at N 1, and 0 where A is not above N. */
    private static void numbersOfStopZero() {
        Tell tell = new Tell(CHECK, 8, 3, 0, 100, 0, 0, 0, 0);
        String first = "11 0" + Bits.number(99, 1, 29, 7);
        String second = "11 0";
        String third = "11 00";
        String later = "1 01";
        int[][] seldom = {{50, 0}, {51, 1}, {49, 2}, {53, 5}, {47, 6}};
        for (int[] s : seldom) {
            int[] samples = {0, 0, 50, 0, 0, 50, 0, 0, s[0]};
            tell.bothWays("M 0, N 2, then " + s[0], samples, first, second, Bits.number(0, 1, 29, 7), third, Bits.number(s[1], 0, 28, 7));
            int[] below = {0, 0, 51, 0, 0, 50, 0, 0, 50, 0, 0, s[0]};
            tell.bothWays("M 1, N 3, then " + s[0], below, "11 0", Bits.number(98, 1, 29, 7), second, Bits.number(1, 1, 29, 7),
                third, Bits.number(0, 1, 28, 7), later, Bits.number(s[1], 0, 28, 7));
        }
        int[][] often = {{50, 0}, {51, 2}, {49, 1}, {53, 6}, {47, 5}};
        for (int[] s : often) {
            int[] samples = {0, 0, 50, 0, 0, 49, 0, 0, 48, 0, 0, 48, 0, 0, s[0] - 2};
            tell.bothWays("M 2, N 4, then " + s[0], samples, first, second, Bits.number(1, 1, 29, 7), third, Bits.number(1, 1, 28, 7),
                later, Bits.number(0, 1, 28, 7), later, Bits.number(s[1], 0, 28, 7));
        }
    }

    /** HALVING 3: A, M and N are halved (cut off) at the third stop. */
    private static void stopsAreHalved() {
        Tell tell = new Tell(CHECK, 8, 5, 0, 100, 2, 2, 50, 3);
        met("two stops", tell.pack(100, 0, 100, 0, 0), 366, 2, 2, 3);
        met("three stops", tell.pack(100, 0, 100, 0, 100), 366, 1, 1, 2);
        met("M of 1", tell.pack(1, 0, 1, 0, 100), 366, 1, 0, 2);
        met("A of 5", tell.pack(1, 0, 1, 0, 4), 366, 2, 0, 2);
        Tell four = new Tell(CHECK, 8, 7, 0, 100, 2, 2, 50, 4);
        met("N of 4 is 4", four.pack(100, 0, 100, 0, 100, 0, 0), 366, 2, 3, 4);
        met("N of 4 becomes 3", four.pack(100, 0, 100, 0, 100, 0, 1), 366, 1, 1, 3);
    }

    /** A bit 0 and as many samples as are left of the row, or more, are a fault; one less is none. */
    private static void tooManySamples() {
        for (int width = 5; width <= 64; width++) {
            int pace = pace(width - 1);
            int j = BITS[pace];
            int left = width - DONE[pace];
            String run = Bits.ones(pace) + "0";
            int place = (run.length() - 1 + (run.length() - 1) / 9) / 8;
            for (int n = left; n < 1 << j; n++) {
                plain(width).fails(n + " of " + left + " in a row of " + width, 1, 7, place, run, Bits.low(n, j), "1111111111");
            }
        }
    }
}
