import java.util.Arrays;

/** The limits of MEASURES, of what comes of them (RANGE, Q, B, LONGEST, the first A), and of the plain ones. */
public final class MeasuresTest {
    private static final Check CHECK = new Check("MeasuresTest");

    public static void main(String[] args) {
        mostIsAtMostTheGreatestSample();
        nearIsAtMostHalfOfMost();
        nearIsAtMost255();
        firstThresholdIsAboveNear();
        thresholdsDoNotFall();
        lastThresholdIsAtMostMost();
        halvingIsAtLeastThree();
        halvingIsAtMost255OrMost();
        badMeasuresOnlyCountInScans();
        oneSampleOfEachMeasures();
        mostZerosOfEachMeasures();
        errorsOfEachMeasures();
        plainThresholds();
        plainThresholdsWithNear();
        plainHalving();
        CHECK.finish();
    }

    /** The measures that come are right: they can be packed with, and a scan with them can be read. */
    private static void right(int depth, int near, int... five) {
        NearPicture x = new NearPicture();
        x.canvas(1, 1, 1, depth);
        x.measures(five[0], five[1], five[2], five[3], five[4]);
        int[] row = rowWith(depth, near, five);
        String what = "depth " + depth + ", near " + near + ", " + Arrays.toString(five);
        CHECK.same("pack with " + what, x.pack(near), row.length);
        CHECK.holds("row with " + what, Arrays.equals(Rows.out(x), row));
        Rows.type(x, row);
        CHECK.same("unpack with " + what, x.unpack(), 0);
    }

    /** They are wrong: packing is refused, and a scan with them has FAULT 6. */
    private static void wrong(int depth, int near, int... five) {
        NearPicture x = new NearPicture();
        x.canvas(1, 1, 1, depth);
        x.measures(five[0], five[1], five[2], five[3], five[4]);
        String what = "depth " + depth + ", near " + near + ", " + Arrays.toString(five);
        CHECK.notAsSaid("pack with " + what, () -> x.pack(near));
        wrongScan(what, depth, near, five);
    }

    private static void wrongScan(String what, int depth, int near, int... five) {
        NearPicture x = new NearPicture();
        int[] row = rowWith(depth, near, five);
        Rows.type(x, row);
        CHECK.same("unpack with " + what, x.unpack(), 6);
        CHECK.same("place with " + what, x.place(), row.length - 6);
    }

    private static int[] rowWith(int depth, int near, int... five) {
        int[] section = Arrays.stream(five).sum() == 0 ? new int[0] : Rows.measures(five);
        return Rows.join(Rows.BEGIN, Rows.frame(depth, 1, 1, 1), section, Rows.scan(1, near, 128), Rows.END);
    }

    /** MOST is at most 2^DEPTH - 1. */
    private static void mostIsAtMostTheGreatestSample() {
        for (int depth = 2; depth <= 16; depth++) {
            int greatest = (1 << depth) - 1;
            right(depth, 0, greatest, 0, 0, 0, 0);
            right(depth, 0, 1, 0, 0, 0, 0);
            NearPicture x = new NearPicture();
            x.canvas(1, 1, 1, depth);
            CHECK.notAsSaid("MOST above depth " + depth, () -> x.measures(greatest + 1, 0, 0, 0, 0));
            if (depth < 16) {
                wrongScan("MOST above depth " + depth, depth, 0, greatest + 1, 0, 0, 0, 0);
            }
        }
    }

    /** NEAR is at most half of MOST (cut off). */
    private static void nearIsAtMostHalfOfMost() {
        int[][] halves = {{1, 0}, {2, 1}, {3, 1}, {4, 2}, {5, 2}, {100, 50}, {101, 50}, {254, 127}, {255, 127}};
        for (int[] h : halves) {
            right(8, h[1], h[0], 0, 0, 0, 0);
            wrong(8, h[1] + 1, h[0], 0, 0, 0, 0);
        }
        for (int depth = 2; depth <= 8; depth++) {
            int half = (1 << depth - 1) - 1;
            right(depth, half, 0, 0, 0, 0, 0);
            wrong(depth, half + 1, 0, 0, 0, 0, 0);
        }
        right(9, 254, 509, 0, 0, 0, 0);
        wrong(9, 255, 509, 0, 0, 0, 0);
        right(9, 255, 510, 0, 0, 0, 0);
    }

    /** NEAR is 0 .. 255. */
    private static void nearIsAtMost255() {
        for (int depth = 9; depth <= 16; depth++) {
            right(depth, 255, 0, 0, 0, 0, 0);
            right(depth, 0, 0, 0, 0, 0, 0);
            NearPicture x = new NearPicture();
            x.canvas(1, 1, 1, depth);
            CHECK.notAsSaid("NEAR 256 of depth " + depth, () -> x.pack(256));
            CHECK.notAsSaid("NEAR -1 of depth " + depth, () -> x.pack(-1));
        }
    }

    /** NEAR + 1 <= T1. */
    private static void firstThresholdIsAboveNear() {
        right(8, 0, 0, 1, 0, 0, 0);
        right(8, 5, 0, 6, 0, 0, 0);
        wrong(8, 5, 0, 5, 0, 0, 0);
        right(8, 127, 0, 128, 0, 0, 0);
        wrong(8, 127, 0, 127, 0, 0, 0);
        wrong(8, 1, 0, 1, 200, 200, 0);
        right(16, 255, 0, 256, 0, 0, 0);
        wrong(16, 255, 0, 255, 0, 0, 0);
    }

    /** T1 <= T2 <= T3, whether they are told or plain. */
    private static void thresholdsDoNotFall() {
        right(8, 0, 0, 9, 9, 0, 0);
        wrong(8, 0, 0, 9, 8, 0, 0);
        right(8, 0, 0, 0, 9, 9, 0);
        wrong(8, 0, 0, 0, 9, 8, 0);
        right(8, 0, 0, 0, 3, 0, 0);
        wrong(8, 0, 0, 0, 2, 0, 0);
        right(8, 0, 0, 0, 0, 7, 0);
        wrong(8, 0, 0, 0, 0, 6, 0);
        right(8, 0, 0, 30, 0, 30, 0);
        wrong(8, 0, 0, 30, 0, 29, 0);
        right(8, 0, 0, 7, 7, 7, 0);
    }

    /** T3 <= MOST, and so are T1 and T2. */
    private static void lastThresholdIsAtMostMost() {
        right(8, 0, 0, 0, 0, 255, 0);
        wrong(8, 0, 0, 0, 0, 256, 0);
        right(8, 0, 0, 0, 255, 0, 0);
        wrong(8, 0, 0, 0, 256, 0, 0);
        right(8, 0, 0, 255, 0, 0, 0);
        wrong(8, 0, 0, 256, 0, 0, 0);
        wrong(8, 0, 0, 65535, 65535, 65535, 0);
        right(8, 0, 40, 1, 2, 40, 0);
        wrong(8, 0, 40, 1, 2, 41, 0);
        right(16, 0, 0, 65535, 65535, 65535, 0);
        right(2, 0, 1, 1, 1, 1, 0);
        wrong(2, 0, 1, 1, 1, 2, 0);
    }

    private static void halvingIsAtLeastThree() {
        right(8, 0, 0, 0, 0, 0, 3);
        wrong(8, 0, 0, 0, 0, 0, 2);
        wrong(8, 0, 0, 0, 0, 0, 1);
        right(16, 0, 0, 0, 0, 0, 3);
        wrong(16, 0, 0, 0, 0, 0, 2);
    }

    private static void halvingIsAtMost255OrMost() {
        for (int most : new int[] {1, 3, 100, 254, 255}) {
            right(8, 0, most, 0, 0, 0, 255);
            wrong(8, 0, most, 0, 0, 0, 256);
        }
        for (int most : new int[] {256, 257, 300, 511}) {
            right(9, 0, most, 0, 0, 0, most);
            wrong(9, 0, most, 0, 0, 0, most + 1);
        }
        right(9, 0, 0, 0, 0, 0, 511);
        wrong(9, 0, 0, 0, 0, 0, 512);
        right(16, 0, 0, 0, 0, 0, 65535);
        wrong(16, 0, 65534, 0, 0, 0, 65535);
        wrong(8, 0, 0, 0, 0, 0, 65535);
    }

    /** Measures are judged at scans: such as no scan has do no harm. */
    private static void badMeasuresOnlyCountInScans() {
        int[] frame = Rows.frame(8, 1, 1, 1);
        int[] bad = Rows.measures(65535, 9, 8, 7, 1);
        int[] plain = Rows.measures(0, 0, 0, 0, 0);
        int[] scan = Rows.scan(1, 0, 128);
        NearPicture x = new NearPicture();
        Rows.type(x, Rows.join(Rows.BEGIN, bad, frame, plain, scan, Rows.END));
        CHECK.same("told anew before the scan", x.unpack(), 0);
        Rows.type(x, Rows.join(Rows.BEGIN, frame, scan, bad, Rows.END));
        CHECK.same("told behind the last scan", x.unpack(), 0);
        Rows.type(x, Rows.join(Rows.BEGIN, bad, frame, scan, Rows.END));
        CHECK.same("told before the frame", x.unpack(), 6);
        CHECK.same("at NEAR", x.place(), 37);
    }

    /** Depth, MOST as it is told, NEAR; MOST, RANGE, Q, LONGEST. */
    private static final int[][] COMING = {
        {8, 0, 0, 255, 256, 8, 32}, {8, 0, 1, 255, 86, 7, 32}, {8, 0, 2, 255, 52, 6, 32}, {8, 0, 127, 255, 2, 1, 32},
        {8, 254, 0, 254, 255, 8, 32}, {8, 128, 0, 128, 129, 8, 32}, {8, 127, 0, 127, 128, 7, 30}, {8, 126, 0, 126, 127, 7, 30},
        {8, 64, 0, 64, 65, 7, 30}, {8, 63, 0, 63, 64, 6, 28}, {2, 0, 0, 3, 4, 2, 20}, {2, 2, 0, 2, 3, 2, 20},
        {2, 1, 0, 1, 2, 1, 20}, {2, 3, 1, 3, 2, 1, 20}, {2, 2, 1, 2, 2, 1, 20}, {3, 0, 0, 7, 8, 3, 22}, {3, 4, 0, 4, 5, 3, 22},
        {3, 3, 0, 3, 4, 2, 20}, {3, 4, 2, 4, 2, 1, 22}, {4, 0, 7, 15, 2, 1, 24}, {4, 10, 2, 10, 3, 2, 24}, {4, 11, 2, 11, 4, 2, 24},
        {4, 13, 2, 13, 4, 2, 24}, {4, 15, 2, 15, 4, 2, 24}, {9, 0, 0, 511, 512, 9, 36}, {9, 256, 0, 256, 257, 9, 36},
        {9, 255, 0, 255, 256, 8, 32}, {10, 0, 0, 1023, 1024, 10, 40}, {12, 0, 0, 4095, 4096, 12, 48},
        {12, 0, 3, 4095, 586, 10, 48}, {16, 0, 0, 65535, 65536, 16, 64}, {16, 0, 255, 65535, 130, 8, 64},
        {16, 32768, 0, 32768, 32769, 16, 64}, {16, 32767, 0, 32767, 32768, 15, 60}, {8, 158, 0, 158, 159, 8, 32},
        {8, 159, 0, 159, 160, 8, 32}, {9, 286, 0, 286, 287, 9, 36}, {9, 287, 0, 287, 288, 9, 36}};

    private static Tell oneSample(int[] c) {
        return c[1] == 0 ? new Tell(CHECK, c[0], 1, c[2]) : new Tell(CHECK, c[0], 1, c[2], c[1], 0, 0, 0, 0);
    }

    private static String nameOf(int[] c) {
        return "depth " + c[0] + ", MOST " + c[3] + ", NEAR " + c[2];
    }

    /** The least k with 2^k not below the first A, which is the greater of 2 and FLOOR((RANGE + 32) / 64). */
    private static int firstK(int range) {
        int first = Math.max(2, (range + 32) / 64);
        int k = 0;
        while (1 << k < first) {
            k++;
        }
        return k;
    }

    /** One sample alone: in a run, or its STOP with the guess 0 and no bits of the PACE. */
    private static void oneSampleOfEachMeasures() {
        for (int[] c : COMING) {
            int near = c[2];
            int most = c[3];
            for (int sample = 0; sample <= most; sample += most > 600 && sample > 300 && sample < most - 300 ? 97 : 1) {
                String what = nameOf(c) + ", sample " + sample;
                if (sample <= near) {
                    oneSample(c).packs(what, new int[] {sample}, "1");
                    continue;
                }
                int error = (sample + near) / (2 * near + 1);
                error -= error >= (c[4] + 1) / 2 ? c[4] : 0;
                String bits = "0" + stopWith(error, c);
                NearPicture x = oneSample(c).packs(what, new int[] {sample}, bits);
                oneSample(c).reads(what, new int[] {sampleOf(error, c)}, bits);
                int first = Math.max(2, (c[4] + 32) / 64);
                CHECK.same(what + ": A", x.learned(366, 0), first + Math.abs(error) - 1);
                CHECK.same(what + ": M", x.learned(366, 1), error < 0 ? 1 : 0);
                CHECK.holds(what + ": no further than NEAR", Math.abs(sampleOf(error, c) - sample) <= near);
            }
        }
    }

    private static String stopWith(int error, int[] c) {
        return Bits.number(2 * Math.abs(error) - 1 - (error < 0 ? 1 : 0), firstK(c[4]), c[6] - 1, c[5]);
    }

    private static int sampleOf(int error, int[] c) {
        int step = 2 * c[2] + 1;
        return Math.min(c[3], error < 0 ? (error + c[4]) * step : error * step);
    }

    /** l - Q - 1 bits 0 before a 1 are right, one more is not. */
    private static void mostZerosOfEachMeasures() {
        for (int[] c : COMING) {
            int zeros = c[6] - 1 - c[5] - 1;
            String what = nameOf(c) + ", most zeros";
            // The number 1 is an error of 1, but for a RANGE of 2, which has no such error: there it is 0, one of -1.
            if (c[4] > 2) {
                oneSample(c).reads(what, new int[] {Math.min(c[3], 2 * c[2] + 1)}, "0", Bits.zeros(zeros), "1", Bits.zeros(c[5]));
            } else {
                oneSample(c).fails(what, 1, 7, 0, "0", Bits.zeros(zeros), "1", Bits.zeros(c[5]));
            }
            oneSample(c).fails(what + " and one", 1, 7, 0, "0", Bits.zeros(zeros + 1), "1", Bits.zeros(c[5]));
        }
    }

    /** Errors are - FLOOR(RANGE / 2) .. FLOOR((RANGE - 1) / 2). */
    private static void errorsOfEachMeasures() {
        for (int[] c : COMING) {
            int least = -(c[4] / 2);
            int greatest = (c[4] - 1) / 2;
            String what = nameOf(c) + ", error ";
            oneSample(c).reads(what + least, new int[] {sampleOf(least, c)}, "0", stopWith(least, c));
            oneSample(c).fails(what + (least - 1), 1, 7, 0, "0", stopWith(least - 1, c));
            if (greatest > 0) {
                oneSample(c).reads(what + greatest, new int[] {sampleOf(greatest, c)}, "0", stopWith(greatest, c));
            }
            oneSample(c).fails(what + (greatest + 1), 1, 7, 0, "0", stopWith(greatest + 1, c));
        }
    }

    /** Depth, MOST (0: plain), T1, T2, T3 as they are told, and as they come with NEAR 0. */
    private static final int[][] PLAIN = {
        {8, 0, 0, 0, 0, 3, 7, 21}, {8, 128, 0, 0, 0, 3, 7, 21}, {8, 127, 0, 0, 0, 2, 3, 10}, {8, 126, 0, 0, 0, 2, 3, 10},
        {8, 85, 0, 0, 0, 2, 3, 10}, {8, 84, 0, 0, 0, 2, 3, 7}, {8, 63, 0, 0, 0, 2, 3, 5}, {8, 50, 0, 0, 0, 2, 3, 4},
        {4, 0, 0, 0, 0, 2, 3, 4}, {3, 4, 0, 0, 0, 2, 3, 4}, {2, 0, 0, 0, 0, 2, 3, 3}, {2, 2, 0, 0, 0, 2, 2, 2},
        {2, 1, 0, 0, 0, 1, 1, 1}, {9, 383, 0, 0, 0, 3, 7, 21}, {9, 384, 0, 0, 0, 4, 11, 38}, {10, 639, 0, 0, 0, 4, 11, 38},
        {10, 640, 0, 0, 0, 5, 15, 55}, {12, 3967, 0, 0, 0, 17, 63, 259}, {12, 3968, 0, 0, 0, 18, 67, 276},
        {12, 0, 0, 0, 0, 18, 67, 276}, {13, 4224, 0, 0, 0, 18, 67, 276}, {16, 0, 0, 0, 0, 18, 67, 276},
        {8, 0, 5, 0, 0, 5, 7, 21}, {8, 0, 9, 0, 0, 9, 9, 21}, {8, 0, 30, 0, 0, 30, 30, 30}, {8, 0, 0, 30, 0, 3, 30, 30},
        {8, 0, 0, 5, 0, 3, 5, 21}, {8, 0, 0, 5, 6, 3, 5, 6}, {8, 0, 0, 0, 9, 3, 7, 9}, {8, 0, 1, 1, 1, 1, 1, 1},
        {8, 0, 255, 0, 0, 255, 255, 255}};

    /** A row of two samples that are v: v is the size of the only slope of the second one, so its GRADE is its PLACE. */
    private static void plainThresholds() {
        for (int[] p : PLAIN) {
            int most = p[1] == 0 ? (1 << p[0]) - 1 : p[1];
            for (int i = 5; i < 8; i++) {
                for (int v = Math.max(1, p[i] - 1); v <= Math.min(most, p[i] + 1); v++) {
                    int grade = 1 + (v >= p[5] ? 1 : 0) + (v >= p[6] ? 1 : 0) + (v >= p[7] ? 1 : 0);
                    NearPicture x = new Tell(CHECK, p[0], 2, 0, p[1], p[2], p[3], p[4], 0).pack(v, v);
                    for (int place = 1; place <= 4; place++) {
                        CHECK.same(Arrays.toString(p) + ", slope " + v + ", N of place " + place, x.learned(place, 3),
                            place == grade ? 2 : 1);
                    }
                }
            }
        }
    }

    /** Depth, MOST (0: plain), NEAR, and T1, T2, T3 as they come. */
    private static final int[][] PLAIN_NEAR = {
        {8, 0, 1, 6, 12, 28}, {8, 0, 2, 9, 17, 35}, {8, 0, 3, 12, 22, 42}, {10, 0, 3, 15, 34, 93}, {16, 0, 1, 21, 72, 283},
        {8, 127, 1, 4, 8, 17}, {8, 127, 5, 16, 28, 45}, {4, 0, 1, 3, 5, 8}, {6, 0, 2, 6, 11, 19}, {8, 84, 1, 4, 7, 14},
        {8, 0, 4, 15, 27, 49}};

    /**
     * A row that falls by 1 from one sample to the next, all of them guessed right: the first of a
     * PLACE errs and makes its C 1. How many there are in a PLACE tells its lower threshold.
     */
    private static void plainThresholdsWithNear() {
        for (int[] p : PLAIN_NEAR) {
            int most = p[1] == 0 ? (1 << p[0]) - 1 : p[1];
            int step = 2 * p[2] + 1;
            int[] lows = {0, p[2] + 1, p[3], p[4], p[5]};
            int[] met = {0, 1, 1, 1, 1};
            int[] row = new int[64];
            int count = 0;
            int last = (p[5] + step + step - 1) / step * step;
            int grade = last > most ? 0 : 4;
            row[count++] = last;
            for (; grade >= 1 && last - lows[grade] >= step; grade--) {
                last -= (last - lows[grade]) / step * step;
                row[count++] = last;
                met[grade]++;
                while (last >= lows[grade]) {
                    last--;
                    row[count++] = last;
                    met[grade]++;
                }
            }
            CHECK.holds(Arrays.toString(p) + " meets the highest threshold", met[4] > 1);
            if (grade == 0) {
                // a is NEAR now, so that a RUN begins, which no PLACE counts.
                row[count++] = last;
            }
            NearPicture x = new Tell(CHECK, p[0], count, p[2], p[1], 0, 0, 0, 0).pack(Arrays.copyOf(row, count));
            for (int place = grade + 1; place <= 4; place++) {
                CHECK.same(Arrays.toString(p) + ": N of place " + place, x.learned(place, 3), met[place]);
            }
        }
    }

    /** HALVING is 64 if none is told: N becomes 64, and 33 behind that. */
    private static void plainHalving() {
        for (int[] five : new int[][] {{}, {255, 0, 0, 0, 0}, {0, 0, 0, 0, 64}}) {
            NearPicture x = new NearPicture();
            x.canvas(64, 1, 1, 8);
            x.draw(0, 0, 0, 64, 1, 100, 100, 0);
            if (five.length != 0) {
                x.measures(five[0], five[1], five[2], five[3], five[4]);
            }
            x.pack(0);
            CHECK.same("63 samples at one place", x.learned(4, 3), 64);
            x.canvas(64, 2, 1, 8);
            for (int y = 0; y < 2; y++) {
                x.draw(0, 0, y, 64, 1, 100 + 100 * y, 100 + 100 * y, 0);
            }
            if (five.length != 0) {
                x.measures(five[0], five[1], five[2], five[3], five[4]);
            }
            x.pack(0);
            // All but the first of the second row have an a above b, c and d, which are the same: PLACE 4 as well.
            // N goes from 64 to 33 at the first of them, to 64 with 31 more, to 33 again, and to 63 with the last 30.
            CHECK.same("63 and 63 samples at one place", x.learned(4, 3), 63);
        }
    }
}
