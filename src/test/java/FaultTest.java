import java.util.Arrays;

/** Promises 13 and 14: each FAULT, the byte it is at, and which of several comes first. */
public final class FaultTest {
    private static final Check CHECK = new Check("FaultTest");
    private static final int[] FRAME = Rows.frame(8, 4, 1, 1);
    private static final int[] THREE = Rows.frame(8, 4, 1, 1, 2, 3);
    private static final int[] HEAD = Rows.join(Rows.BEGIN, FRAME);
    private static final int[] GOOD = Rows.join(HEAD, Rows.scan(1, 0, 0xF0), Rows.END);

    public static void main(String[] args) {
        CHECK.same("good length", GOOD.length, 28);
        due(0, NearPicture.NONE, GOOD);
        earlyEnds();
        marks();
        lengths();
        frameContent();
        otherContent();
        measures();
        numbers();
        numbersOfFewBits();
        runs();
        marksInData();
        bytesCutOff();
        moreBytes();
        CHECK.finish();
    }

    private static void due(int fault, int place, int[]... parts) {
        int[] row = Rows.join(parts);
        NearPicture x = new NearPicture();
        Rows.type(x, row);
        String what = Arrays.toString(row);
        CHECK.same("unpack of " + what, x.unpack(), fault);
        CHECK.same("place in " + what, x.place(), place);
        if (fault != 0) {
            CHECK.notNow("no picture by " + what, () -> x.about(0));
        }
    }

    private static int[] with(int[] row, int i, int value) {
        int[] changed = row.clone();
        changed[i] = value;
        return changed;
    }

    private static void earlyEnds() {
        int[] long3 = Rows.join(Rows.BEGIN, Rows.row(255, 255, 230, 0, 4, 1, 2), Rows.measures(255, 3, 7, 21, 64), THREE,
            Rows.scan(1, 0, 0xF0), Rows.scan(2, 0, 255, 0), Rows.scan(3, 0, 0x50), Rows.END);
        due(7, long3.length - 2, long3);
        long3[long3.length - 3] = 0xF0;
        due(0, NearPicture.NONE, long3);
        for (int n = 0; n < long3.length; n++) {
            due(1, n, Arrays.copyOf(long3, n));
        }
        due(1, 4, Rows.BEGIN, Rows.row(255, 255));
        due(1, 8, Rows.BEGIN, Rows.row(255, 254, 0, 5, 9, 9));
        due(1, 7, Rows.BEGIN, Rows.row(255, 254, 255, 255, 9));
        due(1, 26, HEAD, Rows.scan(1, 0, 255));
        due(1, 26, HEAD, Rows.scan(1, 0, 0xE0));
    }

    private static void marks() {
        due(2, 0, Rows.row(254, 216));
        due(2, 0, Rows.row(0));
        due(2, 2, Rows.BEGIN, Rows.row(0, 255));
        due(2, 26, HEAD, Rows.scan(1, 0, 0xF0, 0), Rows.END);
        due(2, 15, HEAD, Rows.row(254));
        for (int m : new int[] {0, 1, 215, 217, 218, 224, 247, 248, 254}) {
            due(3, 1, Rows.row(255, m));
        }
        due(3, 3, Rows.row(255, 255, 255, 217));
        for (int m = 0; m < 255; m++) {
            boolean named = m == 247 || m == 248 || m == 254 || m >= 224 && m <= 239;
            due(named ? 1 : 3, named ? 4 : 3, Rows.BEGIN, Rows.row(255, m));
        }
        due(3, 4, Rows.BEGIN, Rows.row(255, 255, 218));
        due(3, 16, HEAD, FRAME);
        due(3, 16, HEAD, Rows.END);
        due(3, 16, HEAD, Rows.BEGIN);
        due(3, 27, HEAD, Rows.scan(1, 0, 0xF0), Rows.scan(1, 0, 0xF0));
        due(3, 27, HEAD, Rows.scan(1, 0, 0xF0), FRAME);
        due(3, 33, Rows.BEGIN, THREE, Rows.scan(1, 0, 0xF0), Rows.END);
        due(3, 44, Rows.BEGIN, THREE, Rows.scan(1, 0, 0xF0), Rows.scan(2, 0, 0xF0), Rows.END);
        due(3, 55, Rows.BEGIN, THREE, Rows.scan(1, 0, 0xF0), Rows.scan(2, 0, 0xF0), Rows.scan(3, 0, 0xF0), Rows.BEGIN);
    }

    private static void lengths() {
        for (int m : new int[] {224, 230, 239, 254}) {
            due(4, 4, Rows.BEGIN, Rows.row(255, m, 0, 0));
            due(4, 4, Rows.BEGIN, Rows.row(255, m, 0, 1));
            due(1, 6, Rows.BEGIN, Rows.row(255, m, 0, 2));
        }
        due(4, 4, Rows.BEGIN, Rows.row(255, 248, 0, 12));
        due(4, 4, Rows.BEGIN, Rows.row(255, 248, 1, 13));
        due(4, 17, HEAD, Rows.row(255, 218, 0, 7));
        due(4, 17, HEAD, Rows.row(255, 218, 0, 9));
        due(4, 17, HEAD, Rows.row(255, 218, 8, 8));
        for (int length : new int[] {0, 1, 10, 12, 14, 17, 255}) {
            due(4, 4, with(HEAD, 5, length));
            due(4, 4, Arrays.copyOf(with(HEAD, 5, length), 12));
            due(1, 11, Arrays.copyOf(with(HEAD, 5, length), 11));
            due(5, 6, with(with(HEAD, 5, length), 6, 1));
        }
        due(4, 4, with(HEAD, 4, 1));
        due(4, 4, with(Rows.join(Rows.BEGIN, THREE), 5, 11));
        due(5, 11, with(with(HEAD, 5, 14), 11, 2));
    }

    private static void frameContent() {
        int[] three = Rows.join(Rows.BEGIN, THREE);
        for (int depth : new int[] {0, 1, 17, 255}) {
            due(5, 6, with(HEAD, 6, depth));
        }
        due(5, 7, with(HEAD, 8, 0));
        due(5, 7, with(HEAD, 8, 65));
        due(5, 7, with(HEAD, 7, 1));
        due(5, 9, with(HEAD, 10, 0));
        due(5, 9, with(HEAD, 10, 65));
        due(5, 9, with(HEAD, 9, 1));
        due(1, 8, Arrays.copyOf(with(HEAD, 7, 1), 8));
        for (int planes : new int[] {0, 2, 4, 255}) {
            due(5, 11, with(HEAD, 11, planes));
        }
        due(5, 13, with(HEAD, 13, 16));
        due(5, 14, with(HEAD, 14, 1));
        due(5, 15, with(three, 15, 1));
        due(5, 18, with(three, 18, 1));
        due(5, 18, with(three, 18, 2));
        due(5, 19, with(three, 19, 34));
        due(5, 20, with(three, 20, 255));
        due(1, 21, three);
        due(0, NearPicture.NONE, Rows.BEGIN, Rows.frame(2, 4, 1, 0), Rows.scan(0, 0, 0xF0), Rows.END);
        due(0, NearPicture.NONE, Rows.BEGIN, Rows.frame(16, 4, 1, 255), Rows.scan(255, 0, 0xF0), Rows.END);
        due(0, NearPicture.NONE, Rows.BEGIN, Rows.frame(16, 64, 1, 7), Rows.scan(7, 0, 255, 127, 192), Rows.END);
    }

    private static void otherContent() {
        due(5, 6, Rows.BEGIN, with(Rows.measures(0, 0, 0, 0, 0), 4, 2));
        due(5, 6, Rows.BEGIN, with(Rows.measures(0, 0, 0, 0, 0), 4, 0));
        int[][] wrong = {{19, 0}, {19, 2}, {20, 0}, {20, 2}, {21, 1}, {23, 1}, {24, 1}};
        for (int[] w : wrong) {
            due(5, w[0], with(GOOD, w[0], w[1]));
        }
        int[] three = Rows.join(Rows.BEGIN, THREE, Rows.scan(2, 0, 0xF0));
        due(5, 26, three);
        int[] again = Rows.join(Rows.BEGIN, THREE, Rows.scan(1, 0, 0xF0), Rows.scan(1, 0, 0xF0));
        due(5, 37, again);
        int[] skipped = Rows.join(Rows.BEGIN, THREE, Rows.scan(1, 0, 0xF0), Rows.scan(3, 0, 0xF0));
        due(5, 37, skipped);
    }

    private static void measuresAnd(int near, int fault, int... five) {
        int[] row = Rows.join(HEAD, Rows.measures(five), Rows.scan(1, near, 0xF0), Rows.END);
        due(fault, fault == 0 ? NearPicture.NONE : 37, row);
        if (fault != 0) {
            due(5, 38, with(row, 38, 1));
            due(5, 39, with(row, 39, 1));
            due(1, 39, Arrays.copyOf(row, 39));
            due(6, 37, Arrays.copyOf(row, 40));
        }
    }

    private static void measures() {
        due(6, 22, with(GOOD, 22, 128));
        due(0, NearPicture.NONE, with(GOOD, 22, 127));
        measuresAnd(0, 6, 256, 0, 0, 0, 0);
        measuresAnd(0, 6, 65535, 0, 0, 0, 0);
        measuresAnd(0, 0, 255, 0, 0, 0, 0);
        measuresAnd(51, 6, 100, 0, 0, 0, 0);
        measuresAnd(50, 0, 100, 0, 0, 0, 0);
        measuresAnd(3, 6, 0, 3, 0, 0, 0);
        measuresAnd(2, 0, 0, 3, 0, 0, 0);
        measuresAnd(0, 6, 0, 9, 8, 0, 0);
        measuresAnd(0, 6, 0, 0, 9, 8, 0);
        measuresAnd(0, 6, 0, 0, 0, 256, 0);
        measuresAnd(0, 6, 0, 65535, 0, 0, 0);
        measuresAnd(0, 6, 0, 0, 0, 0, 2);
        measuresAnd(0, 0, 0, 0, 0, 0, 3);
        measuresAnd(0, 0, 0, 0, 0, 0, 255);
        measuresAnd(0, 6, 0, 0, 0, 0, 256);
        int[] deep = Rows.join(Rows.BEGIN, Rows.frame(16, 4, 1, 1), Rows.measures(0, 0, 0, 0, 65535),
            Rows.scan(1, 255, 0xF0), Rows.END);
        due(0, NearPicture.NONE, deep);
        int[] second = Rows.join(Rows.BEGIN, THREE, Rows.scan(1, 0, 0xF0), Rows.measures(0, 0, 0, 0, 2),
            Rows.scan(2, 0, 0xF0));
        due(6, 54, second);
    }

    /** The first bit ends the run of none; the number behind it has k 2, Q 8 and a limit of 31. */
    private static void numbers() {
        due(7, 25, HEAD, Rows.scan(1, 0, 0, 0, 0), Rows.END);
        due(7, 28, HEAD, Rows.scan(1, 0, 0, 0, 1), Rows.END);
        due(1, 27, HEAD, Rows.scan(1, 0, 0, 0));
        // Three run bits, the bit 0, then 22 bits 0, a bit 1 and m - 1 in 8 bits: 253 is e = -128, 254 is 128.
        int[] least = Rows.scan(1, 0, 0b11100000, 0, 0, 0b00111111, 0b10100000);
        due(0, NearPicture.NONE, HEAD, least, Rows.END);
        int[] tooGreat = Rows.scan(1, 0, 0b11100000, 0, 0, 0b00111111, 0b11000000);
        due(7, 25, HEAD, tooGreat, Rows.END);
        int[] tooSmall = Rows.scan(1, 0, 0b11100000, 0, 0, 0b00111111, 0b11100000);
        due(7, 25, HEAD, tooSmall, Rows.END);
        // 4 and 4 samples, a bit 0 and none more: the number begins with the next byte.
        int[] ten = Rows.join(Rows.BEGIN, Rows.frame(8, 10, 1, 1));
        due(7, 26, ten, Rows.scan(1, 0, 0b11111100, 0, 0, 0), Rows.END);
        // 4 and 2 samples, a bit 0 and 1 more: it begins with the last bit of the byte.
        int[] eight = Rows.join(Rows.BEGIN, Rows.frame(8, 8, 1, 1));
        due(7, 25, eight, Rows.scan(1, 0, 0b11111010, 0, 0, 0), Rows.END);
    }

    /** LONGEST is 20 for MOST up to 3: of MOST 3 (Q 2) up to 16 bits 0 are right here, of MOST 1 (Q 1), with J 1, too. */
    private static void numbersOfFewBits() {
        int[] one = Rows.join(Rows.BEGIN, Rows.frame(2, 1, 1, 1));
        due(0, NearPicture.NONE, one, Rows.scan(1, 0, 0, 0, 0b01000000), Rows.END);
        due(7, 25, one, Rows.scan(1, 0, 0, 0, 0b00100000), Rows.END);
        int[] ten = Rows.join(Rows.BEGIN, Rows.frame(2, 10, 1, 1), Rows.measures(1, 0, 0, 0, 0));
        due(1, 43, ten, Rows.scan(1, 0, 0b11111100, 0, 0));
        due(7, 41, ten, Rows.scan(1, 0, 0b11111100, 0, 0, 0));
    }

    private static void runs() {
        // Four run bits, then J is 1: a bit 0 with 1 sample where 1 or 2 are left.
        int[] five = Rows.join(Rows.BEGIN, Rows.frame(8, 5, 1, 1));
        due(7, 25, five, Rows.scan(1, 0, 0b11110100), Rows.END);
        due(0, NearPicture.NONE, five, Rows.scan(1, 0, 0b11110010, 0), Rows.END);
        due(0, NearPicture.NONE, five, Rows.scan(1, 0, 0b11111000), Rows.END);
        int[] six = Rows.join(Rows.BEGIN, Rows.frame(8, 6, 1, 1));
        due(0, NearPicture.NONE, six, Rows.scan(1, 0, 0b11110110, 0), Rows.END);
        // Eight run bits and more: J is 2, 12 samples are done; the bit 0 is the last of its byte.
        int[] more = Rows.join(Rows.BEGIN, Rows.frame(8, 14, 1, 1));
        due(7, 26, more, Rows.scan(1, 0, 255, 0b00100000), Rows.END);
        due(7, 26, more, Rows.scan(1, 0, 255, 0b00110000), Rows.END);
        due(0, NearPicture.NONE, more, Rows.scan(1, 0, 255, 0b00011100), Rows.END);
        int[] ten = Rows.join(Rows.BEGIN, Rows.frame(8, 11, 1, 1));
        due(7, 25, ten, Rows.scan(1, 0, 0b11111110, 0b10000000), Rows.END);
        due(0, NearPicture.NONE, ten, Rows.scan(1, 0, 0b11111110, 0b01000000), Rows.END);
    }

    private static void marksInData() {
        due(7, 25, HEAD, Rows.scan(1, 0), Rows.END);
        due(7, 25, HEAD, Rows.scan(1, 0, 255, 128), Rows.END);
        due(7, 25, HEAD, Rows.scan(1, 0, 255, 255), Rows.END);
        due(7, 26, HEAD, Rows.scan(1, 0, 0xC0), Rows.END);
        due(7, 26, HEAD, Rows.scan(1, 0, 0), Rows.END);
        due(0, NearPicture.NONE, HEAD, Rows.scan(1, 0, 255, 127), Rows.END);
        due(1, 26, HEAD, Rows.scan(1, 0, 0));
        due(1, 27, HEAD, Rows.scan(1, 0, 0, 255));
        due(1, 25, HEAD, Rows.scan(1, 0));
    }

    /** What stood behind the end of the TAPE before it was cut is never looked at. */
    private static void bytesCutOff() {
        NearPicture x = new NearPicture();
        Rows.type(x, Rows.join(HEAD, Rows.scan(1, 0, 255), Rows.END));
        CHECK.same("a MARK", x.unpack(), 7);
        CHECK.same("in the DATA", x.place(), 25);
        x.end(26);
        CHECK.same("cut behind its 255", x.unpack(), 1);
        CHECK.same("at the end", x.place(), 26);
        Rows.type(x, Rows.join(Rows.BEGIN, Rows.row(255, 254, 0, 20), GOOD));
        for (int n = 3; n <= 24; n++) {
            Rows.type(x, Rows.join(Rows.BEGIN, Rows.row(255, 254, 0, 20), GOOD));
            x.end(n);
            CHECK.same("cut in a section", x.unpack(), 1);
            CHECK.same("there", x.place(), n);
        }
    }

    private static void moreBytes() {
        due(8, 28, GOOD, Rows.row(0));
        due(8, 28, GOOD, Rows.row(255));
        due(8, 28, GOOD, GOOD);
    }
}
