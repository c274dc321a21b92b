import java.util.Arrays;

/** Promises 13 to 16: unpack, place, about, sample; the FAULTS are in FaultTest. */
public final class UnpackTest {
    private static final Check CHECK = new Check("UnpackTest");

    public static void main(String[] args) {
        noPicture();
        pictureOfOut();
        pictureStays();
        namesAndSections();
        measuresHold();
        bitsBehindTheLast();
        freeErrors();
        scansWithTheirOwnNear();
        scansWithMeasuresThatHold();
        CHECK.finish();
    }

    private static void noPicture() {
        NearPicture x = new NearPicture();
        CHECK.same("no unpack yet", x.place(), NearPicture.NONE);
        CHECK.notNow("about nothing", () -> x.about(0));
        CHECK.notAsSaid("about -1 of nothing", () -> x.about(-1));
        CHECK.notAsSaid("about 4 of nothing", () -> x.about(4));
        CHECK.notNow("sample of nothing", () -> x.sample(0, 0, 0));
        CHECK.notNow("no sample of nothing", () -> x.sample(-1, 99, 99));
        CHECK.same("an empty tape", x.unpack(), 1);
        CHECK.same("ends at 0", x.place(), 0);
        CHECK.notNow("still nothing", () -> x.about(3));
    }

    private static void pictureOfOut() {
        NearPicture x = new NearPicture();
        x.canvas(7, 5, 3, 12);
        for (int plane = 0; plane < 3; plane++) {
            x.draw(plane, 0, 0, 7, 5, 400 * plane, 4095, 63);
            x.draw(plane, plane, plane, 3, 2, 77, 77, 0);
        }
        x.pack(0);
        x.turn();
        CHECK.same("unpack", x.unpack(), 0);
        CHECK.same("place", x.place(), NearPicture.NONE);
        CHECK.same("width", x.about(0), 7);
        CHECK.same("height", x.about(1), 5);
        CHECK.same("planes", x.about(2), 3);
        CHECK.same("depth", x.about(3), 12);
        CHECK.notAsSaid("about -1", () -> x.about(-1));
        CHECK.notAsSaid("about 4", () -> x.about(4));
        for (int i = 0; i < 3 * 35; i++) {
            CHECK.same("sample " + i, x.sample(i / 35, i % 7, i / 7 % 5), x.at(i / 35, i % 7, i / 7 % 5));
        }
        int[][] nowhere = {{-1, 0, 0}, {3, 0, 0}, {0, -1, 0}, {0, 7, 0}, {0, 0, -1}, {0, 0, 5}};
        for (int[] n : nowhere) {
            CHECK.noSuch("sample " + n[0] + " " + n[1] + " " + n[2], () -> x.sample(n[0], n[1], n[2]));
        }
        int first = x.sample(1, 0, 0);
        x.canvas(1, 1, 1, 2);
        CHECK.same("the canvas is another picture", x.sample(1, 0, 0), first);
    }

    private static void pictureStays() {
        NearPicture x = new NearPicture();
        x.canvas(6, 6, 1, 8);
        x.draw(0, 0, 0, 6, 6, 20, 90, 3);
        x.pack(0);
        int size = x.turn();
        x.unpack();
        int[] before = samples(x, 36, 6);
        x.draw(0, 0, 0, 6, 6, 200, 90, 3);
        x.pack(0);
        x.turn();
        x.end(x.size() - 1);
        CHECK.same("its end is missing", x.unpack(), 1);
        CHECK.same("there", x.place(), x.size() - 1);
        int[] after = samples(x, 36, 6);
        for (int i = 0; i < 36; i++) {
            CHECK.same("the picture stays " + i, after[i], before[i]);
        }
        CHECK.same("failing again", x.unpack(), 1);
        x.turn();
        CHECK.same("whole", x.unpack(), 0);
        CHECK.same("no place", x.place(), NearPicture.NONE);
        CHECK.same("the new picture", x.sample(0, 0, 0), x.at(0, 0, 0));
        CHECK.same("the tape stays", x.unpack(), 0);
        CHECK.holds("it was one", size > 30);
        Rows.type(x, Rows.join(Rows.BEGIN, Rows.frame(4, 1, 1, 9), Rows.scan(9, 0, 128), Rows.END));
        CHECK.same("a smaller one", x.unpack(), 0);
        CHECK.same("its width", x.about(0), 1);
        CHECK.noSuch("no more than it has", () -> x.sample(0, 1, 0));
        CHECK.same("its depth", x.about(3), 4);
    }

    private static int[] samples(NearPicture x, int count, int width) {
        int[] all = new int[count];
        for (int i = 0; i < count; i++) {
            all[i] = x.sample(0, i % width, i / width);
        }
        return all;
    }

    private static void namesAndSections() {
        NearPicture x = new NearPicture();
        int[] row = Rows.join(Rows.BEGIN, Rows.row(255, 254, 0, 2), Rows.measures(0, 0, 0, 0, 5),
            Rows.row(255, 255, 255, 224, 0, 5, 255, 217, 0), Rows.frame(8, 3, 1, 200, 0, 255),
            Rows.row(255, 239, 0, 3, 9), Rows.scan(200, 0, 0xE0), Rows.row(255, 254, 0, 3, 255),
            Rows.scan(0, 1, 0xE0), Rows.measures(0, 0, 0, 0, 0), Rows.row(255), Rows.scan(255, 0, 0xE0),
            Rows.row(255, 255, 255), Rows.END);
        Rows.type(x, row);
        CHECK.same("sections anywhere", x.unpack(), 0);
        CHECK.same("planes", x.about(2), 3);
    }

    /** MOST is told; the guess of a sample is 0, and an error of 1 below it comes round to MOST. */
    private static void measuresHold() {
        NearPicture x = new NearPicture();
        int[] frame = Rows.frame(8, 1, 1, 1);
        // A run bit 0, then the number 0 with k 2 for the sample that stops: an error of -1.
        int[] tail = Rows.join(Rows.scan(1, 0, 0b01000000), Rows.END);
        Rows.type(x, Rows.join(Rows.BEGIN, frame, tail));
        CHECK.same("plain", stopOf(x), 255);
        Rows.type(x, Rows.join(Rows.BEGIN, frame, Rows.measures(200, 0, 0, 0, 0), tail));
        CHECK.same("told behind the frame", stopOf(x), 200);
        Rows.type(x, Rows.join(Rows.BEGIN, Rows.measures(201, 0, 0, 0, 0), frame, tail));
        CHECK.same("told before the frame", stopOf(x), 201);
        Rows.type(x, Rows.join(Rows.BEGIN, Rows.measures(200, 0, 0, 0, 0), frame, Rows.measures(202, 0, 0, 0, 0), tail));
        CHECK.same("told again", stopOf(x), 202);
        Rows.type(x, Rows.join(Rows.BEGIN, Rows.measures(200, 0, 0, 0, 0), frame, Rows.measures(0, 0, 0, 0, 9), tail));
        CHECK.same("plain again", stopOf(x), 255);
        Rows.type(x, Rows.join(Rows.BEGIN, frame, tail));
        CHECK.same("none from the row before", stopOf(x), 255);
    }

    private static int stopOf(NearPicture x) {
        CHECK.same("unpack", x.unpack(), 0);
        return x.sample(0, 0, 0);
    }

    private static void bitsBehindTheLast() {
        NearPicture x = new NearPicture();
        int[] head = Rows.join(Rows.BEGIN, Rows.frame(8, 4, 1, 1));
        for (int last : new int[] {0xF0, 0xF1, 0xFE, 0xF7}) {
            Rows.type(x, Rows.join(head, Rows.scan(1, 0, last), Rows.END));
            CHECK.same("bits behind the last " + last, x.unpack(), 0);
        }
        for (int behind : new int[] {0, 1, 127}) {
            Rows.type(x, Rows.join(head, Rows.scan(1, 0, 255, behind), Rows.END));
            CHECK.same("a byte behind a full one " + behind, x.unpack(), 0);
        }
        int[] nine = Rows.join(Rows.BEGIN, Rows.frame(8, 8, 2, 1), Rows.scan(1, 0, 255, 127), Rows.END);
        Rows.type(x, nine);
        CHECK.same("one bit in the byte behind a full one", x.unpack(), 0);
        int[] eight = Rows.join(Rows.BEGIN, Rows.frame(8, 4, 3, 1), Rows.scan(1, 0, 255, 0), Rows.END);
        Rows.type(x, eight);
        CHECK.same("just a full one", x.unpack(), 0);
    }

    /** Rows that no packing makes: errors that come round and are still beyond. */
    private static void freeErrors() {
        NearPicture x = new NearPicture();
        // MOST 10, NEAR 2: STEP 5, RANGE 3; an error of -1 from 0 is -5, which comes round to 10.
        int[] head = Rows.join(Rows.BEGIN, Rows.frame(4, 1, 1, 1), Rows.measures(10, 0, 0, 0, 0));
        Rows.type(x, Rows.join(head, Rows.scan(1, 2, 0b01000000), Rows.END));
        CHECK.same("comes round", stopOf(x), 10);
        // MOST 6, NEAR 2: RANGE 3; -5 comes round to 10, which is above 8, and so MOST.
        head = Rows.join(Rows.BEGIN, Rows.frame(4, 1, 1, 1), Rows.measures(6, 0, 0, 0, 0));
        Rows.type(x, Rows.join(head, Rows.scan(1, 2, 0b01000000), Rows.END));
        CHECK.same("comes round and is beyond", stopOf(x), 6);
        Rows.type(x, Rows.join(head, Rows.scan(1, 2, 0b01100000), Rows.END));
        CHECK.same("goes up", stopOf(x), 5);
    }

    /** A picture of one plane that meets many PLACES and some RUNS, packed and unpacked. */
    private static NearPicture alone(int near, int... five) {
        NearPicture x = new NearPicture();
        x.canvas(24, 16, 1, 8);
        x.draw(0, 0, 0, 24, 16, 190, 20, 7);
        x.draw(0, 3, 2, 15, 9, 60, 60, 0);
        x.draw(0, 5, 4, 9, 10, 40, 100, 31);
        x.measures(five[0], five[1], five[2], five[3], five[4]);
        x.pack(near);
        x.turn();
        CHECK.same("unpack of a plane alone", x.unpack(), 0);
        return x;
    }

    private static int[] dataOf(NearPicture alone) {
        int[] out = Rows.out(alone);
        int head = out[16] == 248 ? 40 : 25;
        return Arrays.copyOfRange(out, head, out.length - 2);
    }

    /** One row with three scans, as each plane would be told alone; sections[i] is empty or stands before scan i. */
    private static void threeScans(String what, int[] nears, int[][] sections, int[][] holding) {
        int[] row = Rows.join(Rows.BEGIN, Rows.frame(8, 24, 16, 1, 2, 3));
        NearPicture[] alone = new NearPicture[3];
        for (int plane = 0; plane < 3; plane++) {
            alone[plane] = alone(nears[plane], holding[plane]);
            int[] section = sections[plane].length == 0 ? sections[plane] : Rows.measures(sections[plane]);
            row = Rows.join(row, section, Rows.scan(plane + 1, nears[plane], dataOf(alone[plane])));
        }
        NearPicture x = new NearPicture();
        Rows.type(x, Rows.join(row, Rows.END));
        CHECK.same(what + ": unpack", x.unpack(), 0);
        for (int i = 0; x.place() == NearPicture.NONE && i < 3 * 384; i++) {
            int plane = i / 384;
            CHECK.same(what + ": sample " + i, x.sample(plane, i % 24, i / 24 % 16), alone[plane].sample(0, i % 24, i / 24 % 16));
        }
        for (int i = 0; i < 4 * 367; i++) {
            CHECK.same(what + ": learned " + i, x.learned(i / 4, i % 4), alone[2].learned(i / 4, i % 4));
        }
    }

    /** T1, T2, T3 that are plain go by the NEAR of each scan, and nothing that was learned goes from plane to plane. */
    private static void scansWithTheirOwnNear() {
        int[] plain = {0, 0, 0, 0, 0};
        for (int[] nears : new int[][] {{0, 0, 0}, {0, 3, 1}, {5, 0, 2}, {1, 1, 9}, {12, 4, 0}}) {
            threeScans("NEAR " + Arrays.toString(nears), nears, new int[3][0], new int[][] {plain, plain, plain});
        }
    }

    /** MEASURES hold for all scans behind them, until others are told; what is 0 in them is plain for each scan. */
    private static void scansWithMeasuresThatHold() {
        int[] none = {};
        int[] plain = {0, 0, 0, 0, 0};
        int[] second = {0, 0, 33, 0, 5};
        int[] most = {220, 0, 0, 60, 0};
        threeScans("told first", new int[] {0, 2, 4}, new int[][] {second, none, none}, new int[][] {second, second, second});
        threeScans("told behind the first", new int[] {3, 0, 2}, new int[][] {none, second, none}, new int[][] {plain, second, second});
        threeScans("told twice", new int[] {0, 1, 2}, new int[][] {second, most, none}, new int[][] {second, most, most});
        threeScans("plain again", new int[] {2, 2, 0}, new int[][] {most, second, plain}, new int[][] {most, second, plain});
    }
}
