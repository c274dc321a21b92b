import java.util.Arrays;

/**
 * The edges of DATA but for RUNS: neighbours at the borders, GRADES and PLACES, the guess, errors that
 * come round, R, the numbers that tell errors, and what a PLACE learns.
 */
public final class DataTest {
    private static final Check CHECK = new Check("DataTest");

    public static void main(String[] args) {
        aboveTheFirstRowAllAreZero();
        noneToTheLeft();
        noneToTheRightAbove();
        gradesOfEachSlope();
        gradesUpToNear();
        everyPlace();
        guesses();
        guessIsNotAboveMost();
        guessIsNotBelowZero();
        errorsComeRound();
        errorsWithNear();
        toldSamplesComeRound();
        toldSamplesBeyondAfterwards();
        correctionsOfFirstErrors();
        correctionLimitsKeepB();
        halvingIsFloor();
        leastK();
        numbersThatLeanLow();
        numbersThatDoNotLeanLowWithNear();
        longestShortNumber();
        wholeNumbersThatAreSmall();
        placesBeginAnewWithEachPlane();
        CHECK.finish();
    }

    private static Tell plain(int width) {
        return new Tell(CHECK, 8, width, 0);
    }

    private static void met(String what, NearPicture x, int place, int a, int b, int c, int n) {
        int[] due = {a, b, c, n};
        for (int i = 0; i < 4; i++) {
            CHECK.same(what + ": place " + place + ", what " + i, x.learned(place, i), due[i]);
        }
    }

    /** In the first row only the slope c - a is not 0, and the guess is a. */
    private static void aboveTheFirstRowAllAreZero() {
        NearPicture x = plain(4).pack(5, 5, 10, 30);
        met("5, 5, 10: 5 is right, then 5 too few", x, 2, 4 + 5, -2, -1, 3);
        met("10, 30: 20 too few", x, 3, 4 + 20, -1, -1, 2);
        met("none behind 30", x, 4, 4, 0, 0, 1);
    }

    /** In rows of one sample a, b and d are the one above; c is 0 in the first two rows, then the one above that. */
    private static void noneToTheLeft() {
        NearPicture x = plain(1).pack(10, 40, 41, 50);
        met("second row: c is 0, so the slopes are 0, 10, -10", x, 24, 4 + 30, 0, 1, 2);
        met("third row: c is 10, so they are 0, 30, -30", x, 32, 4 + 1, -1, 1, 2);
        met("fourth row: c is 40, so they are 0, 1, -1", x, 8, 4 + 9, 0, 1, 2);
        x = plain(2).pack(10, 0, 40, 0, 41, 0);
        // Second row, first sample: slopes -10, 10, -10, turned; guess 10. Third: -40, 30, -30, turned; guess 40.
        met("second row of two", x, 243 - 27 + 3, 4 + 30, -1, -1, 2);
        met("third row of two", x, 324 - 36 + 4, 4 + 1, -1, 0, 2);
    }

    /** At the last sample of a row the slope d - b is 0. */
    private static void noneToTheRightAbove() {
        for (int width : new int[] {2, 3, 63, 64}) {
            int[] samples = new int[2 * width];
            samples[width - 2] = 50;
            samples[width - 1] = 60;
            samples[2 * width - 2] = 50;
            samples[2 * width - 1] = 75;
            NearPicture x = plain(width).pack(samples);
            // b is 60, c is 50, a is 50: slopes 0, 10, 0, and the guess is 60.
            met("last of " + width, x, 27, 4 + 15, 0, 1, 2);
        }
    }

    private static int gradeOf(int slope) {
        int size = Math.abs(slope);
        int grade = size == 0 ? 0 : size < 3 ? 1 : size < 7 ? 2 : size < 21 ? 3 : 4;
        return slope < 0 ? -grade : grade;
    }

    /** The last size of each GRADE and the first of the next one, at each of the three slopes. */
    private static void gradesOfEachSlope() {
        int[][] sizes = {{1, 1}, {2, 1}, {3, 2}, {6, 2}, {7, 3}, {20, 3}, {21, 4}, {100, 4}};
        for (int[] s : sizes) {
            NearPicture third = plain(2).pack(s[0], s[0]);
            CHECK.same("c - a is " + -s[0], third.learned(s[1], 3), 2);
            // The first of the second row: b and so a are 0, c is 0, d is the size.
            NearPicture first = plain(2).pack(0, s[0], 0, 0);
            CHECK.same("d - b is " + s[0], first.learned(81 * s[1], 3), 2);
            // The last of the second row: a and c are 100, b is so much more or less.
            NearPicture more = plain(2).pack(100, 100 + s[0], 100, 100);
            CHECK.same("b - c is " + s[0], more.learned(9 * s[1], 3), 2);
            NearPicture less = plain(2).pack(100, 100 - s[0], 100, 100);
            CHECK.same("b - c is " + -s[0], less.learned(9 * s[1], 3), 2);
        }
    }

    /**
     * NEAR 1. In the first row an error of 1 makes C 1, and right guesses then fall by 1; a second error
     * of 1 makes it 2, and they fall by 2. Below such a row slopes of 1 are none, slopes of 2 are some.
     */
    private static void gradesUpToNear() {
        Tell five = new Tell(CHECK, 8, 5, 1, 0, 3, 4, 5, 0);
        NearPicture x = five.pack(30, 27, 26, 25, 24, 30, 27, 27, 27, 27);
        CHECK.same("slopes of 1 begin a run", visits(x), 4 + 2);
        x.turn();
        x.unpack();
        CHECK.same("the run's samples are a", x.sample(0, 4, 1), 27);
        x = five.pack(30, 27, 26, 25, 24, 30, 27, 29, 27, 27);
        CHECK.same("a sample that is 2 away stops it", x.learned(366, 3), 2 + 1);
        Tell six = new Tell(CHECK, 8, 6, 1, 0, 3, 4, 5, 0);
        x = six.pack(30, 27, 23, 21, 19, 17, 30, 27, 23, 21, 19, 17);
        CHECK.same("slopes of 2 are at places", visits(x), 5 + 6);
        CHECK.same("-2, -2, 0 twice", x.learned(90, 3), 3);
        CHECK.same("0, -2, 0 at the end", x.learned(9, 3), 2);
        x = new Tell(CHECK, 8, 9, 1, 0, 2, 2, 2, 0).pack(9, 6, 5, 4, 3, 2, 1, 1, 1);
        CHECK.same("an a of NEAR begins a run", visits(x), 6);
        x = new Tell(CHECK, 8, 8, 1, 0, 3, 3, 3, 0).pack(9, 6, 5, 4, 3, 2, 2, 2);
        CHECK.same("an a of NEAR + 1 does not", x.learned(1, 3), 1 + 2);
        CHECK.same("an a of T3 is at place 4", x.learned(4, 3), 1 + 5);
    }

    /** How many samples were told at PLACES, while none of them is halved. */
    private static int visits(NearPicture x) {
        int visits = 0;
        for (int place = 0; place < 365; place++) {
            visits += x.learned(place, 3) - 1;
        }
        return visits;
    }

    /** All GRADES of the three slopes of the middle one of the second row; N of each PLACE is 1 and how often it was met. */
    private static void everyPlace() {
        int[] slopes = {-30, -10, -4, -1, 0, 1, 4, 10, 30};
        for (int first : slopes) {
            for (int second : slopes) {
                for (int third : slopes) {
                    if (first != 0 || second != 0 || third != 0) {
                        middleOfSix(new int[] {128 - second, 128, 128 + first, 128 - second - third, 150, 0});
                    }
                }
            }
        }
    }

    private static void middleOfSix(int[] s) {
        int[] met = new int[365];
        count(met, 0, 0, -s[0]);
        count(met, 0, 0, -s[1]);
        count(met, s[1] - s[0], s[0], -s[0]);
        count(met, s[2] - s[1], s[1] - s[0], s[0] - s[3]);
        count(met, 0, s[2] - s[1], s[1] - s[4]);
        NearPicture x = plain(3).pack(s);
        for (int place = 0; place < 365; place++) {
            CHECK.same(Arrays.toString(s) + ": N of place " + place, x.learned(place, 3), 1 + met[place]);
        }
    }

    private static void count(int[] met, int first, int second, int third) {
        int g = gradeOf(first);
        int h = gradeOf(second);
        int i = gradeOf(third);
        boolean turned = g < 0 || g == 0 && h < 0 || g == 0 && h == 0 && i < 0;
        met[turned ? -81 * g - 9 * h - i : 81 * g + 9 * h + i]++;
    }

    /** c, b, a and the guess of the last of four samples; its PLACE is met by no other one. */
    private static void guesses() {
        int[][] cases = {
            {100, 60, 80, 60}, {100, 60, 30, 30}, {100, 60, 100, 60}, {100, 60, 99, 60}, {100, 60, 101, 61}, {100, 60, 130, 90},
            {50, 60, 80, 80}, {50, 90, 80, 90}, {50, 90, 50, 90}, {50, 90, 49, 89}, {50, 90, 51, 90}, {50, 90, 20, 60},
            {70, 60, 80, 70}, {70, 90, 30, 50}, {61, 60, 80, 79}, {79, 60, 80, 61}, {80, 60, 80, 60}, {60, 61, 80, 80}};
        for (int[] c : cases) {
            NearPicture x = plain(2).pack(c[0], c[1], c[2], c[3]);
            int place = Math.abs(9 * gradeOf(c[1] - c[0]) + gradeOf(c[0] - c[2]));
            met("guessed right: " + Arrays.toString(c), x, place, 4, 0, 0, 2);
            x = plain(2).pack(c[0], c[1], c[2], c[3] + 1);
            boolean turned = c[1] < c[0];
            met("1 more: " + Arrays.toString(c), x, place, 4 + 1, -1, turned ? 0 : 1, 2);
        }
    }

    /** A row of one sample rises by 25: C becomes 9, and 255 and 9 more are guessed as 255. */
    private static void guessIsNotAboveMost() {
        int[] rising = {30, 55, 80, 105, 130, 155, 180, 205, 230, 255, 255};
        NearPicture x = plain(1).pack(rising);
        met("rising to MOST", x, 32, 4 + 25 + 24 + 23 + 22 + 21 + 20 + 19 + 18 + 17, 0, 9, 11);
        int[] most = {30, 55, 80, 105, 130, 155, 180, 205, 230, 230};
        x = new Tell(CHECK, 8, 1, 0, 230, 0, 0, 0, 0).pack(most);
        met("rising to another MOST", x, 32, 4 + 25 + 24 + 23 + 22 + 21 + 20 + 19 + 18, 0, 8, 10);
    }

    /** It falls by 25 and is turned: C becomes 8, and 0 and 8 less are guessed as 0. */
    private static void guessIsNotBelowZero() {
        int[] falling = {250, 225, 200, 175, 150, 125, 100, 75, 50, 25, 0, 0};
        NearPicture x = plain(1).pack(falling);
        met("falling to 0", x, 32, 4 + 25 + 26 + 25 + 24 + 23 + 22 + 21 + 20 + 19 + 18, 0, 8, 12);
    }

    /** MOST, the guess, the sample, and the error that comes of them: the last that stays, the first that comes round. */
    private static void errorsComeRound() {
        int[][] cases = {
            {255, 100, 227, 127}, {255, 100, 228, -128}, {255, 200, 72, -128}, {255, 200, 71, 127}, {255, 255, 0, 1},
            {255, 30, 255, -31}, {254, 100, 227, 127}, {254, 100, 228, -127}, {254, 200, 73, -127}, {254, 200, 72, 127},
            {253, 100, 226, 126}, {253, 100, 227, -127}, {253, 200, 73, -127}, {253, 200, 72, 126}};
        for (int[] c : cases) {
            NearPicture x = new Tell(CHECK, 8, 1, 0, c[0], 0, 0, 0, 0).pack(c[1], c[2]);
            int size = Math.abs(c[3]);
            int first = Math.max(2, (c[0] + 1 + 32) / 64);
            met(Arrays.toString(c), x, 32, first + size, c[3] > 2 ? 0 : -1, c[3] > 0 ? 1 : -1, 2);
            x.turn();
            CHECK.same("unpack of " + Arrays.toString(c), x.unpack(), 0);
            CHECK.same("sample of " + Arrays.toString(c), x.sample(0, 0, 1), c[2]);
        }
    }

    /** NEAR 2, the guess 100: the sample, the size of its error, and what it is told as. */
    private static void errorsWithNear() {
        int[][] cases = {
            {100, 0, 100}, {102, 0, 100}, {103, 1, 105}, {107, 1, 105}, {108, 2, 110}, {98, 0, 100}, {97, -1, 95}, {93, -1, 95},
            {92, -2, 90}, {227, 25, 225}, {228, -26, 230}, {255, -21, 255}, {0, -20, 0}, {3, -19, 5}, {2, -20, 0}};
        for (int[] c : cases) {
            NearPicture x = new Tell(CHECK, 8, 1, 2).pack(100, c[0]);
            CHECK.same("A for " + c[0], x.learned(32, 0), 2 + Math.abs(c[1]));
            CHECK.same("C for " + c[0], x.learned(32, 2), Integer.signum(c[1]));
            x.turn();
            CHECK.same("unpack for " + c[0], x.unpack(), 0);
            CHECK.same("told for " + c[0], x.sample(0, 0, 1), c[2]);
        }
    }

    /** R of -NEAR becomes 0, of MOST + NEAR MOST; one further comes round. */
    private static void toldSamplesComeRound() {
        // MOST 2, NEAR 1: RANGE 2. 2 is told as 0 - 3 + 6; from the guess 2 an error of -1 is -1, which is 0.
        Tell two = new Tell(CHECK, 2, 1, 1, 2, 0, 0, 0, 0);
        two.bothWays("-NEAR", new int[] {2, 0}, "0", Bits.number(0, 1, 19, 1), Bits.number(1, 1, 20, 1));
        // MOST 13, NEAR 2: RANGE 4; 10 is told as 0 - 10 + 20, and 15 is MOST + NEAR.
        Tell thirteen = new Tell(CHECK, 4, 1, 2, 13, 0, 0, 0, 0);
        thirteen.bothWays("MOST + NEAR", new int[] {10, 13}, "0", Bits.number(2, 1, 23, 2), Bits.number(2, 1, 24, 2));
        // MOST 12: 15 is one above MOST + NEAR and becomes -5, which is 0.
        Tell twelve = new Tell(CHECK, 4, 1, 2, 12, 0, 0, 0, 0);
        twelve.reads("MOST + NEAR + 1", new int[] {10, 0}, "0", Bits.number(2, 1, 23, 2), Bits.number(2, 1, 24, 2));
        // NEAR 1: 3, 3, then C is 2 and turned; the guess 1 with an error of 1, turned, is -2, one below -NEAR: 256, so 255.
        belowMinusNear();
    }

    /** In the first row, turned, place 1 with T1 = 255: C is 1 behind an error of 1, and the next guess is one less. */
    private static void belowMinusNear() {
        Tell near = new Tell(CHECK, 8, 4, 1, 0, 255, 255, 255, 0);
        // 6; 3 by the error 1, C is 1; 2 by the error 0; guess 1: an error of 1 is -2, which comes round to 256.
        String start = "0" + Bits.number(2 * 2 - 1, 1, 31, 7) + Bits.number(2, 1, 32, 7) + Bits.number(0, 1, 32, 7);
        near.reads("-NEAR - 1", new int[] {6, 3, 2, 255}, start, Bits.number(2, 0, 32, 7));
        near.bothWays("-NEAR - 1, packed", new int[] {6, 3, 2, 255}, start, Bits.number(2, 0, 32, 7));
        // Guess 2 with an error of 1 is -NEAR, so 0.
        String two = "0" + Bits.number(2 * 2 - 1, 1, 31, 7) + Bits.number(2, 1, 32, 7);
        near.bothWays("-NEAR again", new int[] {6, 3, 0, 0}, two, Bits.number(2, 1, 32, 7), "1");
    }

    /** RANGE * STEP may be too much: what is still beyond then is 0 or MOST. */
    private static void toldSamplesBeyondAfterwards() {
        // MOST 6, NEAR 2: RANGE 3, STEP 5. -5 comes round to 10, above MOST + NEAR: MOST.
        Tell six = new Tell(CHECK, 4, 1, 2, 6, 0, 0, 0, 0);
        six.reads("below, then beyond", new int[] {6}, "0", Bits.number(0, 1, 21, 2));
        // From the guess 5 an error of 1 is 10, which comes round to -5: 0.
        six.reads("above, then beyond", new int[] {5, 0}, "0", Bits.number(1, 1, 21, 2), Bits.number(2, 1, 22, 2));
    }

    /** Behind a first error, which makes N 2: the error, and B and C. */
    private static void correctionsOfFirstErrors() {
        int[][] cases = {{0, 0, 0}, {-1, -1, 0}, {-2, 0, -1}, {-3, -1, -1}, {-4, -1, -1}, {-9, -1, -1},
            {1, -1, 1}, {2, 0, 1}, {3, 0, 1}, {9, 0, 1}};
        for (int[] c : cases) {
            NearPicture x = plain(1).pack(100, 100 + c[0]);
            met("error " + c[0], x, 32, 4 + Math.abs(c[0]), c[1], c[2], 2);
        }
        // Behind two right guesses N is 4: -3 is above -N, -4 is not, and 8 less is so even when N is added.
        int[][] later = {{-3, -3, 0}, {-4, 0, -1}, {-5, -1, -1}, {-7, -3, -1}, {-8, -3, -1}, {1, -3, 1}, {4, 0, 1}, {5, 0, 1}};
        for (int[] c : later) {
            // In the first row errors are turned round.
            NearPicture x = plain(4).pack(100, 100, 100, 100 - c[0]);
            met("later error " + c[0], x, 4, 4 + Math.abs(c[0]), c[1], c[2], 4);
        }
    }

    /**
     * Three rows of 64 with rows of 0 between them meet PLACE 4 189 times, so that N is 62. Falling by 200
     * they err upwards (turned) and take C to 127, rising so to -128. B has N less or more there, too.
     */
    private static void correctionLimitsKeepB() {
        NearPicture falling = slopes(65000, -200, -128);
        CHECK.same("C is not above 127", falling.learned(4, 2), 127);
        CHECK.same("N", falling.learned(4, 3), 62);
        CHECK.same("B of 1 has N less", falling.learned(4, 1), 1 - 62);
        falling = slopes(65000, -200, -127);
        CHECK.same("C stays 127", falling.learned(4, 2), 127);
        CHECK.same("B of 0 stays", falling.learned(4, 1), 0);
        NearPicture rising = slopes(1000, 200, 130);
        CHECK.same("C is not below -128", rising.learned(4, 2), -128);
        CHECK.same("B of -N has N more", rising.learned(4, 1), 0);
        rising = slopes(1000, 200, 129);
        CHECK.same("C stays -128", rising.learned(4, 2), -128);
        CHECK.same("B of 1 - N stays", rising.learned(4, 1), 1 - 62);
    }

    private static NearPicture slopes(int from, int by, int lastBy) {
        int[] samples = new int[64 * 5];
        for (int y = 0; y < 5; y += 2) {
            for (int i = 0; i < 64; i++) {
                samples[64 * y + i] = from + by * i;
            }
        }
        samples[64 * 5 - 1] = samples[64 * 5 - 2] + lastBy;
        return new Tell(CHECK, 16, 64, 0, 0, 1, 1, 1, 0).pack(samples);
    }

    /** A and B are halved downwards: B of -1 stays, A of 3 becomes 1. */
    private static void halvingIsFloor() {
        Tell three = new Tell(CHECK, 8, 4, 0, 100, 1, 1, 1, 3);
        NearPicture x = three.pack(50, 51, 51, 51);
        met("an error of -1, then right ones", x, 4, 1, -1, 0, 2);
        x = new Tell(CHECK, 8, 5, 0, 100, 1, 1, 1, 4).pack(50, 51, 53, 53, 53);
        // Errors -1, -2 (B is -3, so 0, and C -1), 1 (B is 1, so -3, and C 0), 0: A 6, B -3 and N 4 are halved.
        met("N of 4 becomes 2 and 1 more", x, 4, 3, -2, 0, 3);
        x = new Tell(CHECK, 8, 6, 0, 100, 1, 1, 1, 5).pack(50, 50, 50, 50, 50, 47);
        met("N of 5 becomes 2 and 1 more", x, 4, (2 + 3) / 2, -2, 1, 3);
    }

    /** k is the least number with N * 2^k not below A. */
    private static void leastK() {
        // MOST 100: A 2, N 1, so k is 1; behind a right guess N is 2, so k is 0; behind an error of 1 A is 3, so it is 1.
        Tell hundred = new Tell(CHECK, 8, 5, 0, 100, 1, 1, 1, 0);
        String stop = "0" + Bits.number(2 * 50 - 1, 1, 29, 7);
        hundred.bothWays("N 2, A 2", new int[] {50, 50, 50, 49, 49}, stop, Bits.number(0, 1, 30, 7), Bits.number(0, 0, 30, 7),
            Bits.number(2, 0, 30, 7), Bits.number(0, 0, 30, 7));
        hundred.bothWays("N 2, A 3", new int[] {50, 51, 50, 50, 50}, stop, Bits.number(1, 1, 30, 7), Bits.number(2, 1, 30, 7),
            Bits.number(0, 1, 30, 7), Bits.number(0, 0, 30, 7));
        // A 5 (RANGE 288): k is 3, not 2; A 4 (RANGE 256): k is 2.
        new Tell(CHECK, 9, 2, 0, 287, 1, 1, 1, 0).bothWays("A 5", new int[] {100, 100},
            "0", Bits.number(2 * 100 - 1, 3, 35, 9), Bits.number(0, 3, 36, 9));
        new Tell(CHECK, 9, 2, 0, 286, 1, 1, 1, 0).bothWays("A 4", new int[] {100, 100},
            "0", Bits.number(2 * 100 - 1, 2, 35, 9), Bits.number(0, 2, 36, 9));
    }

    /**
     * MOST 100: behind errors 0 and 1 A is 3, B -2, C 1 and N 3, so k is 0, and 2 B is not above -N. With
     * one more error 0 it is just -N; with two it is above.
     */
    private static void numbersThatLeanLow() {
        String start = "0" + Bits.number(2 * 50 - 1, 1, 29, 7) + Bits.number(0, 1, 30, 7) + Bits.number(2, 0, 30, 7);
        int[][] samplesAndNumbers = {{48, 1}, {49, 0}, {47, 3}, {50, 2}, {45, 7}, {51, 4}};
        for (int[] s : samplesAndNumbers) {
            Tell four = new Tell(CHECK, 8, 4, 0, 100, 1, 1, 1, 0);
            four.bothWays("2 B below -N, " + s[0], new int[] {50, 50, 49, s[0]}, start, Bits.number(s[1], 0, 30, 7));
            Tell five = new Tell(CHECK, 8, 5, 0, 100, 1, 1, 1, 0);
            five.bothWays("2 B is -N, " + s[0], new int[] {50, 50, 49, 48, s[0] - 1}, start, Bits.number(1, 0, 30, 7),
                Bits.number(s[1], 0, 30, 7));
        }
        int[][] plainNumbers = {{46, 0}, {47, 1}, {45, 2}, {48, 3}, {44, 4}};
        for (int[] s : plainNumbers) {
            Tell six = new Tell(CHECK, 8, 6, 0, 100, 1, 1, 1, 0);
            six.bothWays("2 B above -N, " + s[0], new int[] {50, 50, 49, 48, 47, s[0]}, start, Bits.number(1, 0, 30, 7),
                Bits.number(1, 0, 30, 7), Bits.number(s[1], 0, 30, 7));
        }
        // Behind an error of 1 alone 2 B is -N, too, but A is 3 and N 2, so k is 1.
        new Tell(CHECK, 8, 3, 0, 100, 1, 1, 1, 0).bothWays("k is 1", new int[] {50, 49, 48}, "0",
            Bits.number(2 * 50 - 1, 1, 29, 7), Bits.number(2, 1, 30, 7), Bits.number(0, 1, 30, 7));
    }

    /** NEAR 1: behind errors 0, 0, 0, -1 A is 3, B -3 and N 5. */
    private static void numbersThatDoNotLeanLowWithNear() {
        String start = "0" + Bits.number(2 * 17 - 1, 1, 29, 6) + Bits.number(0, 1, 30, 6) + Bits.number(0, 0, 30, 6)
            + Bits.number(0, 0, 30, 6) + Bits.number(1, 0, 30, 6);
        int[][] samplesAndNumbers = {{54, 0}, {57, 1}, {51, 2}};
        for (int[] s : samplesAndNumbers) {
            Tell six = new Tell(CHECK, 8, 6, 1, 100, 2, 2, 2, 0);
            six.bothWays("NEAR is not 0, " + s[0], new int[] {51, 51, 51, 51, 54, s[0]}, start, Bits.number(s[1], 0, 30, 6));
        }
    }

    /** 22 bits 0 are the most that a short number has with LONGEST 32 and Q 8; the next one is told whole. */
    private static void longestShortNumber() {
        String stop = "0" + Bits.number(2 * 100 - 1, 2, 31, 8);
        plain(2).bothWays("91", new int[] {100, 146}, stop, Bits.zeros(22), "1", "11");
        plain(2).bothWays("92", new int[] {100, 54}, stop, Bits.zeros(23), "1", Bits.low(91, 8));
        plain(1).bothWays("87", new int[] {44}, "0", Bits.zeros(21), "1", "11");
        plain(1).bothWays("88", new int[] {256 - 45}, "0", Bits.zeros(22), "1", Bits.low(87, 8));
    }

    /** A number that has a short form may be told whole. */
    private static void wholeNumbersThatAreSmall() {
        String stop = "0" + Bits.whole(2 * 100 - 1, 31, 8);
        plain(2).reads("1", new int[] {100, 101}, stop, Bits.whole(1, 32, 8));
        plain(2).reads("2", new int[] {100, 99}, stop, Bits.whole(2, 32, 8));
        plain(2).reads("256 is -128", new int[] {100, 228}, stop, Bits.whole(255, 32, 8));
        plain(2).fails("256 is 128", 1, 7, 4, stop, Bits.whole(256, 32, 8));
    }

    /** Three planes that are the same have the same DATA, and what is learned is that of one. */
    private static void placesBeginAnewWithEachPlane() {
        NearPicture one = new NearPicture();
        NearPicture three = new NearPicture();
        one.canvas(9, 9, 1, 8);
        three.canvas(9, 9, 3, 8);
        one.draw(0, 0, 2, 6, 5, 10, 90, 7);
        for (int plane = 0; plane < 3; plane++) {
            three.draw(plane, 0, 2, 6, 5, 10, 90, 7);
        }
        int[] single = Rows.out(packed(one));
        int[] data = Arrays.copyOfRange(single, 25, single.length - 2);
        int[] due = Rows.join(Rows.BEGIN, Rows.frame(8, 9, 9, 1, 2, 3), Rows.scan(1, 0, data), Rows.scan(2, 0, data),
            Rows.scan(3, 0, data), Rows.END);
        CHECK.holds("three times the same DATA", Arrays.equals(Rows.out(packed(three)), due));
        for (int i = 0; i < 4 * 367; i++) {
            CHECK.same("learned " + i, three.learned(i / 4, i % 4), one.learned(i / 4, i % 4));
        }
    }

    private static NearPicture packed(NearPicture x) {
        x.pack(0);
        return x;
    }
}
