/**
 * Promises 6, 13, 14, 16 and 17 by sums over whole pictures and over tapes with single bytes changed.
 * The sums that are due were told by another program, written from the document in another language.
 */
public final class GoldenTest {
    private static final Check CHECK = new Check("GoldenTest");
    private static final int[] FLIPS = {1, 16, 128, 255};

    /** Width, height, planes, depth; MOST, T1, T2, T3, HALVING; NEAR; due: size, sums of OUT, learned, changed tapes. */
    private static final int[][] CASES = {
        {16, 12, 1, 8, 0, 0, 0, 0, 0, 0, 216, -1125461863, -1204936523, -1537897616},
        {16, 12, 1, 8, 0, 0, 0, 0, 0, 2, 145, -82637961, -950016926, 377223605},
        {12, 10, 3, 8, 0, 0, 0, 0, 0, 0, 450, 1961509316, 627628761, -2118396857},
        {20, 9, 1, 8, 255, 5, 9, 30, 4, 1, 165, 1883801125, 1447628285, -1969127493},
        {9, 9, 1, 2, 0, 0, 0, 0, 0, 0, 44, -981244062, 983953129, 561619698},
        {9, 9, 1, 2, 0, 0, 0, 0, 3, 1, 52, -1440315320, -2105174809, 534544272},
        {10, 10, 1, 4, 9, 0, 0, 0, 0, 0, 70, -82914454, -1378837101, 792654836},
        {10, 10, 1, 4, 10, 0, 0, 0, 5, 2, 59, 54242827, 1194094154, -1595501124},
        {13, 11, 1, 5, 0, 0, 0, 0, 0, 3, 61, 2013353657, 1382672319, -1035556095},
        {14, 8, 1, 7, 0, 0, 0, 0, 0, 0, 134, -1457801032, 1481816726, 1083238749},
        {14, 8, 1, 7, 100, 0, 20, 0, 0, 5, 73, -325543315, 340847276, -1395301480},
        {15, 10, 1, 10, 0, 0, 0, 0, 0, 0, 222, -1301008410, 1527829981, 351076814},
        {15, 10, 1, 10, 640, 0, 0, 0, 8, 3, 159, 889373809, -1033459438, 1782085597},
        {12, 12, 1, 12, 0, 0, 0, 0, 0, 0, 261, -2145723205, 504811866, -1086710317},
        {12, 12, 3, 12, 3000, 0, 0, 0, 2000, 9, 611, 1811304508, -555248648, -2065709945},
        {11, 13, 1, 16, 0, 0, 0, 0, 0, 0, 304, 126467566, 851271408, 469483361},
        {11, 13, 1, 16, 0, 1000, 5000, 20000, 3, 0, 396, 1778531689, -875015498, -1322792162},
        {11, 13, 1, 16, 40000, 0, 0, 0, 0, 255, 157, -10033949, -105303154, -1996281766},
        {1, 40, 1, 8, 0, 0, 0, 0, 0, 0, 65, -2050332890, -1670677482, -1914413865},
        {64, 4, 1, 8, 0, 0, 0, 0, 0, 0, 226, 1535872090, 22303535, 1218633779},
        {64, 6, 1, 6, 0, 0, 0, 0, 0, 4, 100, 6285683, 1822828666, -1383777135},
        {5, 64, 1, 8, 6, 0, 0, 0, 3, 2, 73, 333403973, -1249942552, 1122420637},
        {64, 64, 1, 8, 0, 0, 0, 0, 0, 0, 1646, -216968896, -1299957185, 631542450},
        {40, 40, 1, 3, 0, 0, 0, 0, 0, 0, 281, 579317998, -790924374, 1627172938},
        {40, 30, 1, 2, 1, 0, 0, 0, 0, 0, 80, -92535733, 840699407, 1276225850},
        {30, 30, 1, 8, 0, 1, 1, 1, 3, 0, 590, -1725614408, -635389075, -18270374},
        {24, 24, 1, 9, 300, 0, 0, 0, 300, 0, 380, -1404058854, 2078232614, 74029343},
    };

    public static void main(String[] args) {
        for (int i = 0; i < CASES.length; i++) {
            check(i, CASES[i]);
        }
        CHECK.finish();
    }

    private static void check(int number, int[] c) {
        NearPicture x = new NearPicture();
        x.canvas(c[0], c[1], c[2], c[3]);
        drawAll(x, c);
        x.measures(c[4], c[5], c[6], c[7], c[8]);
        CHECK.same("case " + number + " size", x.pack(c[9]), c[10]);
        CHECK.same("case " + number + " OUT", sumOfOut(x), c[11]);
        CHECK.same("case " + number + " learned", sumOfLearned(x, 7), c[12]);
        CHECK.same("case " + number + " changed tapes", sumOfChanges(x), c[13]);
    }

    /** Slopes, noise and even stretches, none above MOST. */
    private static void drawAll(NearPicture x, int[] c) {
        int width = c[0];
        int height = c[1];
        int most = c[4] == 0 ? (1 << c[3]) - 1 : c[4];
        int noise = Integer.highestOneBit(most + 1) / 2 - 1;
        for (int plane = 0; plane < c[2]; plane++) {
            x.draw(plane, 0, 0, width, height, plane, most, 0);
            x.draw(plane, width / 4, 0, (width + 1) / 2, (height + 1) / 2, 0, most / 3, noise);
            x.draw(plane, 0, height / 2, (width + 1) / 2, (height + 1) / 2, most, most / 2, 0);
            x.draw(plane, width / 3, height / 3, (width + 2) / 3, (height + 2) / 3, most / 2, most / 2, noise / 16);
            x.draw(plane, width / 2, height / 4, 1, (height + 1) / 2, most, 0, 0);
        }
    }

    private static int sumOfOut(NearPicture x) {
        int sum = 0;
        for (int i = 0; i < x.size(); i++) {
            sum = 31 * sum + x.out(i);
        }
        return sum;
    }

    private static int sumOfLearned(NearPicture x, int sum) {
        for (int i = 0; i < 4 * 367; i++) {
            sum = 31 * sum + x.learned(i / 4, i % 4);
        }
        return sum;
    }

    private static int sumOfChanges(NearPicture x) {
        int size = x.turn();
        int sum = 0;
        for (int i = 0; i < size; i += 1 + i / 64) {
            for (int by : FLIPS) {
                x.change(i, by);
                sum = 31 * sum + x.unpack();
                sum = 31 * sum + x.place();
                if (x.place() == NearPicture.NONE) {
                    sum = sumOfSamples(x, sum);
                }
                sum = sumOfLearned(x, sum);
                x.change(i, by);
            }
        }
        return sum;
    }

    private static int sumOfSamples(NearPicture x, int sum) {
        int width = x.about(0);
        int height = x.about(1);
        int count = width * height * x.about(2);
        for (int i = 0; i < count; i++) {
            sum = 31 * sum + x.sample(i / width / height, i % width, i / width % height);
        }
        return sum;
    }
}
