/**
 * Promise 12 at its edge: OUT of 32,768 bytes, which the TAPE has room for, and of one byte more. Noise
 * packs to fewer; these rectangles were found by a search for pictures that pack badly.
 */
public final class LongRowTest {
    private static final Check CHECK = new Check("LongRowTest");

    /** x, y, wide, high, v, w, mask of what is drawn on each plane of 64 by 64 samples with 16 bits. */
    private static final int[][] DRAWN = {
        {62, 0, 1, 64, 31721, 25372, 737}, {0, 29, 64, 5, 0, 9870, 61590}, {0, 0, 64, 1, 32768, 30894, 19388},
        {0, 35, 64, 6, 3529, 48737, 24080}, {0, 3, 63, 1, 22264, 4311, 23873}, {0, 34, 63, 6, 26460, 14962, 26079},
        {1, 37, 62, 3, 13, 4604, 19}, {60, 29, 3, 5, 65535, 57036, 15795}, {0, 16, 64, 4, 31845, 10215, 47310},
        {0, 39, 58, 1, 65374, 56041, 35539}, {45, 30, 17, 21, 28978, 65535, 50560}, {0, 0, 63, 1, 32768, 30060, 27519},
        {0, 62, 64, 1, 65535, 25895, 42245}, {6, 1, 10, 53, 31125, 7038, 44975}, {1, 57, 62, 5, 10687, 111, 46281},
        {0, 41, 62, 5, 61805, 18008, 62574}, {0, 43, 60, 8, 858, 1656, 26293}, {1, 18, 62, 7, 65535, 59636, 20631},
        {3, 1, 1, 40, 35135, 20885, 2931}, {0, 49, 64, 1, 5039, 59045, 1991}, {0, 32, 64, 4, 14845, 0, 18690},
        {0, 29, 63, 1, 0, 22250, 23274}, {3, 38, 59, 1, 22619, 30993, 19048}, {0, 9, 62, 1, 60447, 32768, 3200},
        {0, 47, 34, 4, 53532, 20463, 22402}, {1, 0, 1, 51, 34947, 10233, 42962}, {0, 16, 63, 1, 65535, 44384, 58378},
        {0, 33, 63, 3, 0, 52331, 1703}, {0, 29, 62, 4, 38953, 7085, 743}, {0, 48, 20, 11, 19375, 18565, 45248},
        {3, 8, 53, 1, 27779, 46472, 309}, {60, 1, 1, 59, 13018, 2851, 36996}, {4, 41, 2, 9, 54913, 6571, 35878},
        {0, 0, 59, 4, 17419, 42357, 33300}, {18, 0, 1, 51, 0, 32768, 35650}, {43, 0, 1, 62, 52544, 51707, 53309},
        {3, 12, 61, 1, 0, 0, 760}, {0, 20, 62, 3, 0, 65535, 35090}, {58, 0, 1, 55, 29633, 62361, 50993},
        {5, 10, 55, 11, 460, 1705, 41048}, {29, 0, 1, 62, 61868, 32768, 27600}, {0, 59, 64, 1, 0, 43970, 45765},
        {10, 0, 2, 62, 33177, 39750, 59588}, {51, 0, 1, 57, 33350, 51447, 59287}, {0, 59, 48, 1, 42482, 61183, 50445},
        {59, 0, 1, 64, 41782, 65535, 36935}, {27, 0, 1, 60, 32768, 62171, 61223}, {8, 2, 52, 62, 0, 0, 32774},
        {27, 9, 28, 47, 0, 0, 58368}, {62, 57, 1, 1, 26806, 65535, 18787}, {43, 50, 1, 10, 0, 0, 536},
        {43, 35, 2, 18, 13375, 20495, 56755}, {14, 0, 1, 53, 36772, 22707, 38669}};

    /** Without this one on the last plane OUT has 32,769 bytes. */
    private static final int ONE_TOO_MANY = 3;
    /** Without this one it has 32,768. */
    private static final int JUST_AS_MANY = 19;

    public static void main(String[] args) {
        oneTooMany();
        justAsMany();
        CHECK.finish();
    }

    private static void drawAll(NearPicture x, int leftOut) {
        x.canvas(64, 64, 3, 16);
        for (int plane = 0; plane < 3; plane++) {
            for (int i = 0; i < DRAWN.length; i++) {
                int[] d = DRAWN[i];
                if (plane < 2 || i != leftOut) {
                    x.draw(plane, d[0], d[1], d[2], d[3], d[4], d[5], d[6]);
                }
            }
        }
        x.measures(0, 2563, 10438, 24302, 4);
    }

    private static void oneTooMany() {
        NearPicture x = new NearPicture();
        x.feed(1, 2, 3, 4, 5);
        drawAll(x, ONE_TOO_MANY);
        CHECK.same("pack", x.pack(0), 32769);
        CHECK.notNow("no room for it on the TAPE", () -> x.turn());
        CHECK.same("OUT stays", x.size(), 32769);
        CHECK.same("its last byte", x.out(32768), 217);
        CHECK.noSuch("and no more", () -> x.out(32769));
        CHECK.same("the TAPE stays", x.change(19, 0), 5);
        CHECK.noSuch("it has not more than it had", () -> x.change(20, 0));
    }

    private static void justAsMany() {
        NearPicture x = new NearPicture();
        drawAll(x, JUST_AS_MANY);
        CHECK.same("pack", x.pack(0), 32768);
        CHECK.same("room for it on the TAPE", x.turn(), 32768);
        CHECK.same("its last byte", x.change(32767, 0), 217);
        CHECK.noSuch("and no more", () -> x.change(32768, 0));
        CHECK.notNow("the TAPE is full", () -> x.feed(0, 0, 0, 0, 0));
        CHECK.same("unpack", x.unpack(), 0);
        CHECK.same("the last sample", x.sample(2, 63, 63), x.at(2, 63, 63));
        x.end(32767);
        CHECK.same("a byte too few", x.unpack(), 1);
        CHECK.same("at the end", x.place(), 32767);
        for (int i = 0; i < 3 * 4096; i++) {
            CHECK.same("sample " + i, x.sample(i / 4096, i % 64, i / 64 % 64), x.at(i / 4096, i % 64, i / 64 % 64));
        }
    }
}
