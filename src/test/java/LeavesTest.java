import java.util.ArrayList;
import java.util.Arrays;
import java.util.List;
import java.util.Map;

/** What each call that is not refused changes and what it leaves, by a twin that lived through all calls but that one. */
public final class LeavesTest {
    private static final Check CHECK = new Check("LeavesTest");

    private interface Call {
        void on(NearPicture x);
    }

    public static void main(String[] args) {
        changes("canvas", x -> x.canvas(7, 2, 1, 12), Probe.CANVAS, Probe.MEASURES);
        changes("canvas of the same size", x -> x.canvas(5, 4, 3, 10), Probe.CANVAS, Probe.MEASURES);
        changes("draw", x -> x.draw(2, 1, 1, 3, 2, 5, 50, 3), Probe.CANVAS);
        changes("measures", x -> x.measures(998, 4, 9, 30, 7), Probe.MEASURES);
        changes("no measures", x -> x.measures(0, 0, 0, 0, 0), Probe.MEASURES);
        changes("pack", x -> x.pack(2), Probe.OUT, Probe.LEARNED);
        changes("feed", x -> x.feed(1, 2, 3, 4, 5), Probe.TAPE);
        changes("end", x -> x.end(50), Probe.TAPE);
        changes("end at its end", x -> x.end(x.size() - 7));
        changes("change", x -> x.change(50, 1), Probe.TAPE);
        changes("change by 0", x -> x.change(50, 0));
        changes("turn", x -> x.turn(), Probe.TAPE);
        changes("unpack that fails at MEASURES", x -> x.unpack(), Probe.PLACE);
        for (int i = 0; i < 16; i++) {
            int ask = i;
            changes("question " + i, x -> question(x, ask));
        }
        unpackThatFails();
        unpackThatSucceeds();
        CHECK.finish();
    }

    private static void question(NearPicture x, int i) {
        if (i < 4) {
            x.about(i);
        } else if (i < 8) {
            x.learned(365, i - 4);
        } else if (i < 12) {
            x.at(0, 4, i - 8);
            x.sample(0, 5, 2);
        } else {
            x.size();
            x.out(i);
            x.place();
        }
    }

    /** Canvas, OUT, TAPE, picture, place and what was learned all differ from one another and from those of a new one. */
    static NearPicture used() {
        NearPicture x = new NearPicture();
        x.canvas(6, 3, 1, 8);
        x.draw(0, 0, 0, 6, 3, 7, 200, 15);
        x.pack(0);
        x.turn();
        x.unpack();
        x.canvas(5, 4, 3, 10);
        for (int plane = 0; plane < 3; plane++) {
            x.draw(plane, 0, 0, 5, 4, 100 * plane, 900, 63);
        }
        x.measures(1000, 4, 9, 30, 7);
        x.pack(1);
        x.turn();
        x.end(x.size() - 7);
        x.unpack();
        x.change(30, 8);
        x.draw(1, 1, 1, 3, 2, 40, 40, 0);
        x.measures(999, 5, 10, 31, 8);
        return x;
    }

    private static void changes(String what, Call call, String... due) {
        NearPicture x = used();
        call.on(x);
        changed(what, Probe.ask(x), Probe.ask(used()), due);
    }

    private static void changed(String what, Map<String, List<Integer>> after, Map<String, List<Integer>> before, String... due) {
        List<String> changed = new ArrayList<>();
        for (String part : before.keySet()) {
            if (!before.get(part).equals(after.get(part))) {
                changed.add(part);
            }
        }
        CHECK.holds(what + " changes " + changed + ", due is " + Arrays.toString(due), changed.equals(List.of(due)));
    }

    /** A row with a fault behind its first plane: the place, and what was learned, but not the picture. */
    private static void unpackThatFails() {
        int[] good = Rows.join(Rows.BEGIN, Rows.frame(4, 2, 2, 1, 2, 3), Rows.scan(1, 0, 0b11110000));
        int[][] behind = {
            {}, {0}, Rows.BEGIN, {255, 254, 0, 1}, Rows.scan(3, 0), Rows.scan(2, 8), Rows.scan(2, 0, 255, 255)};
        for (int i = 0; i < behind.length; i++) {
            int[] row = Rows.join(good, behind[i]);
            NearPicture twin = used();
            Rows.type(twin, row);
            NearPicture x = used();
            Rows.type(x, row);
            CHECK.same("the row's fault", x.unpack(), i + 1);
            changed("unpack with fault " + (i + 1), Probe.ask(x), Probe.ask(twin), Probe.PLACE, Probe.LEARNED);
        }
        int[] whole = Rows.join(good, Rows.scan(2, 0, 0b11110000), Rows.scan(3, 0, 0b11110000), Rows.END, Rows.row(7));
        NearPicture twin = used();
        Rows.type(twin, whole);
        NearPicture x = used();
        Rows.type(x, whole);
        CHECK.same("all planes are told, but a byte follows", x.unpack(), 8);
        changed("unpack with fault 8", Probe.ask(x), Probe.ask(twin), Probe.PLACE, Probe.LEARNED);
    }

    private static void unpackThatSucceeds() {
        int[] row = Rows.join(Rows.BEGIN, Rows.frame(4, 2, 2, 9), Rows.scan(9, 0, 0b11110000), Rows.END);
        NearPicture twin = used();
        Rows.type(twin, row);
        NearPicture x = used();
        Rows.type(x, row);
        CHECK.same("a row without fault", x.unpack(), 0);
        changed("unpack", Probe.ask(x), Probe.ask(twin), Probe.PLACE, Probe.PICTURE, Probe.LEARNED);
    }
}
