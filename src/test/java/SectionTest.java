import java.util.Arrays;

/** The edges of A PACKED ROW: its MARKS wherever one may stand, LENGTHS, the frame, names, measures that hold. */
public final class SectionTest {
    private static final Check CHECK = new Check("SectionTest");
    private static final int[] FRAME = Rows.frame(8, 1, 1, 1);
    private static final int[] SCAN = Rows.scan(1, 0, 128);
    private static final int[] THREE = Rows.frame(8, 1, 1, 1, 2, 3);
    private static final int NONE = NearPicture.NONE;

    public static void main(String[] args) {
        marksBeforeTheFrame();
        marksBehindTheFrame();
        marksBehindTheScan();
        marksBetweenScans();
        bytesBeforeMarks();
        lengthsOfFreeSections();
        lengthsOfTheFrame();
        lengthsOfOthers();
        depths();
        sides();
        planes();
        names();
        scansInOrder();
        measuresHoldFromThenOn();
        measuresOfPlainOnes();
        firstOfSeveralFaults();
        numbersOfTwoBytes();
        endsInData();
        bitsOfARunIntoAMark();
        CHECK.finish();
    }

    private static NearPicture due(String what, int fault, int place, int[]... parts) {
        NearPicture x = new NearPicture();
        int[] row = Rows.join(parts);
        Rows.type(x, row);
        CHECK.same(what + ": unpack of " + Arrays.toString(row), x.unpack(), fault);
        CHECK.same(what + ": place in " + Arrays.toString(row), x.place(), place);
        return x;
    }

    private static boolean isFree(int m) {
        return m >= 224 && m <= 239 || m == 254;
    }

    /** Each MARK m behind those bytes, with nothing behind it: FAULT 1 if it may come there, else 3 at its m. */
    private static void eachMark(String what, int[] before, int... mayCome) {
        for (int m = 0; m < 255; m++) {
            int mark = m;
            boolean may = isFree(m) || m == 248 || Arrays.stream(mayCome).anyMatch(n -> n == mark);
            int place = before.length + (may ? 2 : 1);
            due(what + ", mark " + m, may ? 1 : 3, place, before, Rows.row(255, m));
            due(what + ", mark " + m + " and 255 before", may ? 1 : 3, place + 2, before, Rows.row(255, 255, 255, m));
        }
    }

    private static void marksBeforeTheFrame() {
        eachMark("before the frame", Rows.BEGIN, 247);
        for (int m = 0; m < 255; m++) {
            due("first mark " + m, m == 216 ? 1 : 3, m == 216 ? 2 : 1, Rows.row(255, m));
        }
    }

    private static void marksBehindTheFrame() {
        eachMark("behind the frame", Rows.join(Rows.BEGIN, FRAME), 218);
        eachMark("behind the frame of three", Rows.join(Rows.BEGIN, THREE), 218);
    }

    private static void marksBehindTheScan() {
        int[] told = Rows.join(Rows.BEGIN, FRAME, SCAN);
        for (int m = 0; m < 255; m++) {
            boolean may = isFree(m) || m == 248;
            int fault = m == 217 ? 0 : may ? 1 : 3;
            due("behind the scan, mark " + m, fault, m == 217 ? NONE : told.length + (may ? 2 : 1), told, Rows.row(255, m));
        }
    }

    private static void marksBetweenScans() {
        int[] one = Rows.join(Rows.BEGIN, THREE, SCAN);
        eachMark("behind the first of three", one, 218);
        int[] two = Rows.join(one, Rows.scan(2, 0, 128));
        eachMark("behind the second of three", two, 218);
        int[] three = Rows.join(two, Rows.scan(3, 0, 128));
        due("a fourth scan", 3, three.length + 1, three, Rows.scan(3, 0, 128));
        due("a second frame", 3, three.length + 1, three, THREE);
        due("all three", 0, NONE, three, Rows.END);
    }

    /** More bytes 255 may stand before each MARK, but not other bytes. */
    private static void bytesBeforeMarks() {
        for (int count : new int[] {0, 1, 2, 19, 300}) {
            int[] full = new int[count];
            Arrays.fill(full, 255);
            due(count + " before each mark", 0, NONE, full, Rows.BEGIN, full, Rows.measures(0, 0, 0, 0, 0), full, FRAME, full,
                Rows.row(255, 230, 0, 2), full, SCAN, full, Rows.row(255, 254, 0, 3, 0), full, Rows.END);
            due(count + " and the end", 1, count, full);
            due(count + " and another byte", count == 0 ? 2 : 3, count, full, Rows.row(0));
        }
        int[][] parts = {Rows.BEGIN, Rows.measures(0, 0, 0, 0, 0), FRAME, Rows.row(255, 230, 0, 2), SCAN, Rows.END};
        int[] before = new int[0];
        for (int[] part : parts) {
            for (int other : new int[] {0, 1, 216, 254}) {
                due("another byte", 2, before.length, before, Rows.row(other), part);
            }
            before = Rows.join(before, part);
        }
    }

    private static void lengthsOfFreeSections() {
        for (int m = 224; m < 255; m = m == 239 ? 254 : m + 1) {
            for (int length : new int[] {2, 3, 4, 255, 256, 257, 1000}) {
                int[] section = new int[2 + length];
                Arrays.fill(section, 255);
                section[1] = m;
                section[2] = length >> 8;
                section[3] = length & 255;
                due("mark " + m + " of " + length, 0, NONE, Rows.BEGIN, section, FRAME, SCAN, Rows.END);
                due("mark " + m + " of " + length + " at the end", 1, 4 + length, Rows.BEGIN, section);
                due("mark " + m + " of " + length + ", a byte too few", 1, 3 + length, Rows.BEGIN, Arrays.copyOf(section, 1 + length));
            }
            due("mark " + m + " of 1", 4, 4, Rows.BEGIN, Rows.row(255, m, 0, 1), FRAME);
            due("mark " + m + " of 0", 4, 4, Rows.BEGIN, Rows.row(255, m, 0, 0), FRAME);
            due("mark " + m + " of 65535", 1, 6, Rows.BEGIN, Rows.row(255, m, 255, 255));
        }
    }

    /** It is judged when the planes are read, and 5 comes before it if they are not 1 or 3. */
    private static void lengthsOfTheFrame() {
        int[] one = Rows.join(Rows.BEGIN, FRAME, SCAN, Rows.END);
        int[] three = Rows.join(Rows.BEGIN, THREE, SCAN, Rows.scan(2, 0, 128), Rows.scan(3, 0, 128), Rows.END);
        due("one plane", 0, NONE, one);
        due("three planes", 0, NONE, three);
        for (int length = 0; length < 30; length++) {
            if (length != 11) {
                due("one plane, " + length, 4, 4, with(one, 5, length));
            }
            if (length != 17) {
                due("three planes, " + length, 4, 4, with(three, 5, length));
            }
            due("two planes, " + length, 5, 11, with(with(one, 5, length), 11, 2));
            due("cut before the planes, " + length, 1, 11, Arrays.copyOf(with(one, 5, length), 11));
            if (length != 11) {
                due("cut behind the planes, " + length, 4, 4, Arrays.copyOf(with(one, 5, length), 12));
            }
        }
        due("a higher byte", 4, 4, with(one, 4, 1));
    }

    private static void lengthsOfOthers() {
        int[] measures = Rows.join(Rows.BEGIN, Rows.measures(0, 0, 0, 0, 0), FRAME, SCAN, Rows.END);
        int[] scan = Rows.join(Rows.BEGIN, FRAME, SCAN, Rows.END);
        for (int length = 0; length < 30; length++) {
            if (length != 13) {
                due("measures, " + length, 4, 4, with(measures, 5, length));
                due("measures cut, " + length, 4, 4, Arrays.copyOf(with(measures, 5, length), 6));
            }
            if (length != 8) {
                due("scan, " + length, 4, 17, with(scan, 18, length));
                due("scan cut, " + length, 4, 17, Arrays.copyOf(with(scan, 18, length), 19));
            }
        }
        due("measures, a higher byte", 4, 4, with(measures, 4, 1));
        due("scan, a higher byte", 4, 17, with(scan, 17, 1));
        due("measures, half a length", 1, 5, Arrays.copyOf(with(measures, 4, 1), 5));
        due("scan, half a length", 1, 18, Arrays.copyOf(with(scan, 17, 1), 18));
    }

    private static int[] with(int[] row, int i, int value) {
        int[] changed = row.clone();
        changed[i] = value;
        return changed;
    }

    private static void depths() {
        for (int depth = 0; depth < 256; depth++) {
            boolean right = depth >= 2 && depth <= 16;
            NearPicture x = due("depth " + depth, right ? 0 : 5, right ? NONE : 6, Rows.BEGIN, Rows.frame(depth, 1, 1, 1), SCAN, Rows.END);
            if (right) {
                CHECK.same("depth", x.about(3), depth);
            }
        }
    }

    /** Height and width are 1 .. 64; a fault is at the first of their two bytes. */
    private static void sides() {
        for (int side = 0; side < 600; side++) {
            boolean right = side >= 1 && side <= 64;
            int[] high = {255, 247, 0, 11, 8, side >> 8, side & 255, 0, 1, 1, 1, 17, 0};
            int[] wide = {255, 247, 0, 11, 8, 0, 1, side >> 8, side & 255, 1, 1, 17, 0};
            // Each row of one sample 0 takes a bit 1.
            int[] column = Bits.data(Bits.ones(right ? side : 1));
            int[] row = right ? dataOfRow(side) : column;
            NearPicture x = due("height " + side, right ? 0 : 5, right ? NONE : 7, Rows.BEGIN, high, Rows.scan(1, 0, column), Rows.END);
            NearPicture y = due("width " + side, right ? 0 : 5, right ? NONE : 9, Rows.BEGIN, wide, Rows.scan(1, 0, row), Rows.END);
            if (right) {
                CHECK.same("its height", x.about(1), side);
                CHECK.same("its width", y.about(0), side);
            }
        }
    }

    private static int[] dataOfRow(int width) {
        NearPicture x = new NearPicture();
        x.canvas(width, 1, 1, 8);
        int size = x.pack(0);
        int[] out = Rows.out(x);
        return Arrays.copyOfRange(out, 25, size - 2);
    }

    private static void planes() {
        for (int planes = 0; planes < 256; planes++) {
            int[] frame = with(FRAME, 9, planes);
            if (planes != 1 && planes != 3) {
                due(planes + " planes", 5, 11, Rows.BEGIN, frame, SCAN, Rows.END);
            }
        }
    }

    /** A name is any byte that none of those before has. */
    private static void names() {
        for (int name = 0; name < 256; name++) {
            due("name " + name, 0, NONE, Rows.BEGIN, Rows.frame(8, 1, 1, name), Rows.scan(name, 0, 128), Rows.END);
            int second = (name + 1) % 256;
            int third = (name + 255) % 256;
            due("names from " + name, 0, NONE, Rows.BEGIN, Rows.frame(8, 1, 1, name, second, third), Rows.scan(name, 0, 128),
                Rows.scan(second, 0, 128), Rows.scan(third, 0, 128), Rows.END);
            due("the second is the first, " + name, 5, 15, Rows.BEGIN, Rows.frame(8, 1, 1, name, name, third));
            due("the third is the first, " + name, 5, 18, Rows.BEGIN, Rows.frame(8, 1, 1, name, second, name));
            due("the third is the second, " + name, 5, 18, Rows.BEGIN, Rows.frame(8, 1, 1, name, second, second));
            due("another name in the scan, " + name, 5, 20, Rows.BEGIN, Rows.frame(8, 1, 1, name), Rows.scan(second, 0, 128));
        }
    }

    private static void scansInOrder() {
        int[][] orders = {{1, 2, 3}, {1, 3, 2}, {2, 1, 3}, {1, 2, 2}, {1, 1, 1}, {1, 2, 1}};
        int[][] dues = {{0, NONE}, {5, 37}, {5, 26}, {5, 48}, {5, 37}, {5, 48}};
        for (int i = 0; i < orders.length; i++) {
            int[] o = orders[i];
            due("scans " + Arrays.toString(o), dues[i][0], dues[i][1], Rows.BEGIN, THREE, Rows.scan(o[0], 0, 128),
                Rows.scan(o[1], 0, 128), Rows.scan(o[2], 0, 128), Rows.END);
        }
    }

    /** MOST as it is told before each plane (-1: not told), and as it holds for each. */
    private static final int[][] TOLD = {
        {-1, -1, -1, 255, 255, 255}, {200, -1, -1, 200, 200, 200}, {-1, 200, -1, 255, 200, 200}, {-1, -1, 200, 255, 255, 200},
        {200, -1, 190, 200, 200, 190}, {200, 0, -1, 200, 255, 255}, {200, 190, 0, 200, 190, 255}};

    /** One sample a plane, which stops by an error of -1 and comes round to MOST. */
    private static void measuresHoldFromThenOn() {
        for (int[] told : TOLD) {
            int[] row = Rows.join(Rows.BEGIN, THREE);
            for (int plane = 0; plane < 3; plane++) {
                int[] section = told[plane] < 0 ? new int[0] : Rows.measures(told[plane], 0, 0, 0, 0);
                row = Rows.join(row, section, Rows.scan(plane + 1, 0, 0b01000000));
            }
            NearPicture x = due("MOST " + Arrays.toString(told), 0, NONE, row, Rows.END);
            for (int plane = 0; plane < 3; plane++) {
                CHECK.same("MOST " + Arrays.toString(told) + ", plane " + plane, x.sample(plane, 0, 0), told[3 + plane]);
            }
        }
    }

    /** A new MEASURES section has all five; what it tells as 0 is plain again. */
    private static void measuresOfPlainOnes() {
        int[] row = Rows.join(Rows.BEGIN, Rows.measures(200, 0, 0, 0, 2), FRAME, Rows.measures(0, 0, 0, 0, 3),
            Rows.scan(1, 0, 0b01000000), Rows.END);
        NearPicture x = due("HALVING told again, MOST plain again", 0, NONE, row);
        CHECK.same("MOST", x.sample(0, 0, 0), 255);
        due("HALVING plain again", 0, NONE, Rows.BEGIN, Rows.measures(0, 0, 0, 0, 2), FRAME, Rows.measures(200, 0, 0, 0, 0),
            Rows.scan(1, 0, 0b01000000), Rows.END);
    }

    /** The first fault ends it, whatever stands behind. */
    private static void firstOfSeveralFaults() {
        int[] row = Rows.join(Rows.BEGIN, Rows.frame(8, 1, 1, 1), Rows.scan(1, 200, 0), Rows.row(1, 2, 3));
        due("6 before all in DATA", 6, 22, row);
        due("5 behind NEAR before 6", 5, 23, with(row, 23, 9));
        due("5 at the last 0 before 6", 5, 24, with(row, 24, 9));
        due("5 before NEAR", 5, 21, with(with(row, 21, 9), 24, 9));
        due("4 before 5", 4, 17, with(with(row, 18, 9), 19, 9));
        due("3 before 4", 3, 16, with(with(row, 16, 9), 18, 9));
        due("2 before 3", 2, 15, with(with(row, 15, 9), 16, 9));
        due("1 before 6", 1, 24, Arrays.copyOf(row, 24));
        due("6 right behind the last 0", 6, 22, Arrays.copyOf(row, 25));
    }

    /** Numbers of two bytes are judged when both are read. */
    private static void numbersOfTwoBytes() {
        int[] row = Rows.join(Rows.BEGIN, FRAME);
        due("half a height", 1, 8, Arrays.copyOf(with(row, 7, 9), 8));
        due("a whole height", 5, 7, Arrays.copyOf(with(row, 7, 9), 9));
        due("half a width", 1, 10, Arrays.copyOf(with(row, 9, 9), 10));
        due("a whole width", 5, 9, Arrays.copyOf(with(row, 9, 9), 11));
        due("half a length", 1, 5, Arrays.copyOf(with(row, 4, 9), 5));
    }

    /** In DATA the end right behind a byte 255 is the end of the TAPE, before a MARK there could be. */
    private static void endsInData() {
        int[] head = Rows.join(Rows.BEGIN, Rows.frame(8, 64, 1, 1));
        int[] ones = {255, 127, 255};
        due("none", 1, 25, head, Rows.scan(1, 0));
        for (int n = 1; n <= 2; n++) {
            due(n + " bytes", 1, 25 + n, head, Rows.scan(1, 0, Arrays.copyOf(ones, n)));
        }
        due("a mark behind two bytes", 7, 27, head, Rows.scan(1, 0, 255, 127), Rows.END);
        due("a full byte at the end", 1, 28, head, Rows.scan(1, 0, 255, 127, 255));
        due("a full byte and one of 128", 7, 27, head, Rows.scan(1, 0, 255, 127, 255, 128), Rows.END);
        due("a full byte and one of 127", 0, NONE, head, Rows.scan(1, 0, 255, 127, 255, 127), Rows.END);
        due("a byte that is not full", 0, NONE, head, Rows.scan(1, 0, 255, 127, 254), Rows.END);
    }

    /** The bit 0 is the last of its byte, and its J bits are no more there. */
    private static void bitsOfARunIntoAMark() {
        int[] head = Rows.join(Rows.BEGIN, Rows.frame(8, 11, 1, 1));
        due("a mark", 7, 26, head, Rows.scan(1, 0, 0b11111110), Rows.END);
        due("the end", 1, 26, head, Rows.scan(1, 0, 0b11111110));
        due("too many", 7, 25, head, Rows.scan(1, 0, 0b11111110, 0b10000000), Rows.END);
    }
}
