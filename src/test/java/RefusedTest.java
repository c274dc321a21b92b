import java.util.ArrayList;
import java.util.List;
import java.util.Map;

/**
 * "A call that throws changes nothing; of several exceptions the one named first is thrown": every kind
 * of refused call in several states, beside a twin that lived through the same calls but for that one.
 */
public final class RefusedTest {
    private static final Check CHECK = new Check("RefusedTest");
    private static final Class<? extends RuntimeException> INDEX = IndexOutOfBoundsException.class;
    private static final Class<? extends RuntimeException> ARGUMENT = IllegalArgumentException.class;
    private static final Class<? extends RuntimeException> STATE = IllegalStateException.class;
    private static final int LEAST = Integer.MIN_VALUE;
    private static final int GREATEST = Integer.MAX_VALUE;

    private interface Call {
        void on(NearPicture x);
    }

    private record Refused(String what, Class<? extends RuntimeException> due, Call call) {
    }

    private static final List<Refused> ALWAYS = new ArrayList<>();
    private static final List<Refused> ON_EIGHT = new ArrayList<>();
    private static final List<Refused> ON_FIVE = new ArrayList<>();
    private static final List<Refused> WITHOUT_PICTURE = new ArrayList<>();
    private static final List<Refused> WITH_PICTURE = new ArrayList<>();
    private static final List<Refused> ON_FULL_TAPE = new ArrayList<>();

    public static void main(String[] args) {
        listCanvas();
        listDraw();
        listAt();
        listMeasuresAndPack();
        listOut();
        listTape();
        listPicture();
        listLearned();
        tryAll("new", RefusedTest::fresh, List.of(ALWAYS, ON_EIGHT, WITHOUT_PICTURE));
        tryAll("used", LeavesTest::used, List.of(ALWAYS, ON_FIVE, WITH_PICTURE));
        tryAll("full", RefusedTest::full, List.of(ON_FULL_TAPE));
        CHECK.finish();
    }

    private interface Maker {
        NearPicture make();
    }

    private static void tryAll(String state, Maker maker, List<List<Refused>> lists) {
        Map<String, List<Integer>> due = Probe.ask(maker.make());
        for (List<Refused> list : lists) {
            for (Refused refused : list) {
                NearPicture x = maker.make();
                String what = state + ": " + refused.what;
                CHECK.refuses(refused.due, what, () -> refused.call.on(x));
                CHECK.holds(what + " changes nothing", Probe.ask(x).equals(due));
            }
        }
    }

    private static NearPicture fresh() {
        return new NearPicture();
    }

    /** A TAPE with room for 19 bytes more. */
    private static NearPicture full() {
        NearPicture x = new NearPicture();
        for (int n = 20; n <= 32760; n += 20) {
            x.feed(n, 2, 3, 4, 5);
        }
        x.end(32749 - 20);
        x.feed(1, 2, 3, 4, 5);
        return x;
    }

    private static void add(List<Refused> to, Class<? extends RuntimeException> due, String what, Call call) {
        to.add(new Refused(what, due, call));
    }

    private static void listCanvas() {
        int[][] wrong = {
            {0, 1, 1, 8}, {65, 1, 1, 8}, {-1, 1, 1, 8}, {LEAST, 1, 1, 8}, {GREATEST, 1, 1, 8},
            {1, 0, 1, 8}, {1, 65, 1, 8}, {1, -1, 1, 8}, {1, LEAST, 1, 8}, {1, GREATEST, 1, 8},
            {1, 1, 0, 8}, {1, 1, 2, 8}, {1, 1, 4, 8}, {1, 1, -1, 8}, {1, 1, LEAST, 8}, {1, 1, GREATEST, 8},
            {1, 1, 1, 1}, {1, 1, 1, 17}, {1, 1, 1, 0}, {1, 1, 1, -1}, {1, 1, 1, LEAST}, {1, 1, 1, GREATEST}, {0, 0, 0, 0}};
        for (int[] w : wrong) {
            String what = "canvas " + w[0] + " " + w[1] + " " + w[2] + " " + w[3];
            add(ALWAYS, ARGUMENT, what, x -> x.canvas(w[0], w[1], w[2], w[3]));
        }
    }

    private static void listDraw() {
        int[][] nowhere = {
            {-1, 0, 0, 1, 1}, {3, 0, 0, 1, 1}, {LEAST, 0, 0, 1, 1}, {GREATEST, 0, 0, 1, 1},
            {0, -1, 0, 1, 1}, {0, 0, -1, 1, 1}, {0, -1, 0, 2, 1}, {0, 0, -1, 1, 2}, {0, LEAST, 0, 1, 1}, {0, 0, LEAST, 1, 1},
            {0, GREATEST, 0, 1, 1}, {0, 0, GREATEST, 1, 1}, {0, 8, 0, 1, 1}, {0, 0, 8, 1, 1},
            {0, 0, 0, 0, 1}, {0, 0, 0, 1, 0}, {0, 0, 0, -1, 1}, {0, 0, 0, 1, -1}, {0, 1, 1, -1, -1}, {0, 0, 0, LEAST, 1},
            {0, 0, 0, 1, LEAST}, {0, 0, 0, 9, 1}, {0, 0, 0, 1, 9}, {0, 1, 1, GREATEST, 1}, {0, 1, 1, 1, GREATEST},
            {0, GREATEST, 0, GREATEST, 1}, {0, 0, GREATEST, 1, GREATEST}, {0, LEAST, 0, LEAST, 1}};
        listNowhere(ALWAYS, nowhere);
        listNowhere(ON_EIGHT, new int[][] {{1, 0, 0, 1, 1}, {0, 7, 0, 2, 1}, {0, 0, 7, 1, 2}, {0, 1, 0, 8, 8}, {0, 0, 1, 8, 8}});
        listNowhere(ON_FIVE, new int[][] {{0, 5, 0, 1, 1}, {0, 0, 4, 1, 1}, {2, 4, 0, 2, 1}, {2, 0, 3, 1, 2}, {2, 1, 0, 5, 4}, {2, 0, 1, 5, 4}});
        listNoSamples(ON_EIGHT, 255);
        listNoSamples(ON_FIVE, 1023);
    }

    /** Places beyond the canvas: with samples and a mask that are right, and with wrong ones, which come second. */
    private static void listNowhere(List<Refused> to, int[][] nowhere) {
        for (int[] r : nowhere) {
            String what = "draw at " + r[0] + " " + r[1] + " " + r[2] + ", " + r[3] + " by " + r[4];
            add(to, INDEX, what, x -> x.draw(r[0], r[1], r[2], r[3], r[4], 1, 2, 3));
            add(to, INDEX, what + " with no samples", x -> x.draw(r[0], r[1], r[2], r[3], r[4], -1, 65536, -1));
        }
    }

    private static void listNoSamples(List<Refused> to, int greatest) {
        int[][] wrong = {
            {-1, 0, 0}, {greatest + 1, 0, 0}, {LEAST, 0, 0}, {GREATEST, 0, 0}, {0, -1, 0}, {0, greatest + 1, 0}, {0, LEAST, 0},
            {0, GREATEST, 0}, {0, 0, -1}, {0, 0, 65536}, {0, 0, LEAST}, {0, 0, GREATEST}};
        for (int[] w : wrong) {
            add(to, ARGUMENT, "draw with " + w[0] + " " + w[1] + " " + w[2], x -> x.draw(0, 1, 1, 3, 2, w[0], w[1], w[2]));
        }
    }

    private static void listAt() {
        int[][] nowhere = {{-1, 0, 0}, {3, 0, 0}, {0, -1, 0}, {0, 8, 0}, {0, 0, -1}, {0, 0, 8}, {LEAST, 0, 0}, {0, LEAST, 0},
            {0, 0, LEAST}, {GREATEST, 0, 0}, {0, GREATEST, 0}, {0, 0, GREATEST}};
        for (int[] n : nowhere) {
            add(ALWAYS, INDEX, "at " + n[0] + " " + n[1] + " " + n[2], x -> x.at(n[0], n[1], n[2]));
        }
        add(ON_EIGHT, INDEX, "at a second plane", x -> x.at(1, 0, 0));
        add(ON_FIVE, INDEX, "at a sixth column", x -> x.at(2, 5, 0));
        add(ON_FIVE, INDEX, "at a fifth row", x -> x.at(2, 0, 4));
    }

    private static void listMeasuresAndPack() {
        for (int i = 0; i < 5; i++) {
            for (int wrong : new int[] {-1, 65536, LEAST, GREATEST}) {
                int[] five = {50, 6, 11, 32, 9};
                five[i] = wrong;
                add(ALWAYS, ARGUMENT, "measure " + i + " of " + wrong, x -> x.measures(five[0], five[1], five[2], five[3], five[4]));
            }
        }
        add(ON_EIGHT, ARGUMENT, "MOST of 256", x -> x.measures(256, 6, 11, 32, 9));
        add(ON_FIVE, ARGUMENT, "MOST of 1024", x -> x.measures(1024, 6, 11, 32, 9));
        for (int near : new int[] {-1, 256, LEAST, GREATEST}) {
            add(ALWAYS, ARGUMENT, "pack with " + near, x -> x.pack(near));
        }
        add(ON_EIGHT, ARGUMENT, "pack with 128 of 255", x -> x.pack(128));
        add(ON_FIVE, ARGUMENT, "pack with 5, which is T1", x -> x.pack(5));
    }

    private static void listOut() {
        for (int i : new int[] {-1, LEAST, GREATEST}) {
            add(ALWAYS, INDEX, "out " + i, x -> x.out(i));
        }
        add(ALWAYS, INDEX, "out behind the last", x -> x.out(x.size()));
    }

    private static void listTape() {
        for (int n : new int[] {-1, 32769, LEAST, GREATEST}) {
            add(ALWAYS, ARGUMENT, "end " + n, x -> x.end(n));
            add(ALWAYS, INDEX, "change at " + n, x -> x.change(n, 1));
            add(ALWAYS, INDEX, "change at " + n + " by 256", x -> x.change(n, 256));
        }
        add(ON_EIGHT, ARGUMENT, "end 1 of none", x -> x.end(1));
        add(ON_EIGHT, INDEX, "change of none", x -> x.change(0, 1));
        add(ON_FIVE, ARGUMENT, "end behind the end", x -> x.end(x.size() - 6));
        add(ON_FIVE, INDEX, "change behind the end", x -> x.change(x.size() - 7, 1));
        for (int by : new int[] {-1, 256, LEAST, GREATEST}) {
            add(ON_FIVE, ARGUMENT, "change by " + by, x -> x.change(3, by));
        }
        add(ON_FULL_TAPE, STATE, "feed", x -> x.feed(9, 9, 9, 9, 9));
        add(ON_FULL_TAPE, ARGUMENT, "end behind 32749", x -> x.end(32750));
        add(ON_FULL_TAPE, INDEX, "change behind 32749", x -> x.change(32749, 1));
    }

    private static void listPicture() {
        for (int what : new int[] {-1, 4, LEAST, GREATEST}) {
            add(ALWAYS, ARGUMENT, "about " + what, x -> x.about(what));
        }
        for (int what = 0; what < 4; what++) {
            int right = what;
            add(WITHOUT_PICTURE, STATE, "about " + what, x -> x.about(right));
        }
        int[][] nowhere = {{-1, 0, 0}, {1, 0, 0}, {0, -1, 0}, {0, 6, 0}, {0, 0, -1}, {0, 0, 3}, {LEAST, 0, 0}, {0, LEAST, 0},
            {0, 0, LEAST}, {GREATEST, 0, 0}, {0, GREATEST, 0}, {0, 0, GREATEST}};
        for (int[] n : nowhere) {
            String what = "sample " + n[0] + " " + n[1] + " " + n[2];
            add(WITHOUT_PICTURE, STATE, what, x -> x.sample(n[0], n[1], n[2]));
            add(WITH_PICTURE, INDEX, what, x -> x.sample(n[0], n[1], n[2]));
        }
        add(WITHOUT_PICTURE, STATE, "sample 0 0 0", x -> x.sample(0, 0, 0));
    }

    private static void listLearned() {
        for (int i : new int[] {-1, 367, LEAST, GREATEST}) {
            add(ALWAYS, INDEX, "learned of " + i, x -> x.learned(i, 0));
            add(ALWAYS, INDEX, "learned of " + i + ", 4", x -> x.learned(i, 4));
            add(ALWAYS, INDEX, "learned of " + i + ", -1", x -> x.learned(i, -1));
        }
        for (int what : new int[] {-1, 4, LEAST, GREATEST}) {
            add(ALWAYS, ARGUMENT, "learned, " + what, x -> x.learned(0, what));
            add(ALWAYS, ARGUMENT, "learned of 366, " + what, x -> x.learned(366, what));
        }
    }
}
