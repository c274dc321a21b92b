import java.util.ArrayList;
import java.util.LinkedHashMap;
import java.util.List;
import java.util.Map;

/**
 * All that can be asked of an object, as lists of answers by what they are about. Asking changes the
 * object in the end (the measures can only be seen by packing), so it is the last thing done with it.
 */
final class Probe {
    static final String OUT = "OUT";
    static final String PLACE = "place";
    static final String PICTURE = "picture";
    static final String LEARNED = "learned";
    static final String TAPE = "TAPE";
    static final String CANVAS = "canvas";
    static final String MEASURES = "measures";

    private static final int NO_SUCH = -1000;
    private static final int NOT_AS_SAID = -1001;
    private static final int NOT_NOW = -1002;

    private final NearPicture x;
    private final Map<String, List<Integer>> all = new LinkedHashMap<>();
    private List<Integer> answers = new ArrayList<>();

    private Probe(NearPicture x) {
        this.x = x;
    }

    static Map<String, List<Integer>> ask(NearPicture x) {
        Probe probe = new Probe(x);
        probe.begin(OUT);
        probe.askOut();
        probe.begin(PLACE);
        probe.add(() -> x.place());
        probe.begin(PICTURE);
        probe.askPicture();
        probe.begin(LEARNED);
        probe.askLearned();
        probe.begin(TAPE);
        probe.askTape();
        probe.begin(CANVAS);
        probe.askCanvas();
        probe.begin(MEASURES);
        probe.askMeasures();
        return probe.all;
    }

    private interface Question {
        int answer();
    }

    private void begin(String what) {
        answers = new ArrayList<>();
        all.put(what, answers);
    }

    private int add(Question question) {
        int answer;
        try {
            answer = question.answer();
        } catch (IndexOutOfBoundsException thrown) {
            answer = NO_SUCH;
        } catch (IllegalArgumentException thrown) {
            answer = NOT_AS_SAID;
        } catch (IllegalStateException thrown) {
            answer = NOT_NOW;
        }
        answers.add(answer);
        return answer;
    }

    private void askOut() {
        int size = add(() -> x.size());
        for (int i = 0; i <= size; i++) {
            int at = i;
            add(() -> x.out(at));
        }
    }

    private void askPicture() {
        int width = add(() -> x.about(0));
        int height = add(() -> x.about(1));
        int planes = add(() -> x.about(2));
        add(() -> x.about(3));
        for (int i = 0; width > 0 && i <= width * height * planes; i++) {
            int at = i;
            add(() -> x.sample(at / width / height, at % width, at / width % height));
        }
    }

    private void askLearned() {
        for (int i = 0; i < 4 * 367; i++) {
            int at = i;
            add(() -> x.learned(at / 4, at % 4));
        }
    }

    /** Every byte, and, by an unpacking, that nothing stands behind the last one. */
    private void askTape() {
        int answer = 0;
        for (int i = 0; answer != NO_SUCH; i++) {
            int at = i;
            answer = add(() -> x.change(at, 0));
        }
        add(() -> x.unpack());
        add(() -> x.place());
    }

    private void askCanvas() {
        for (int i = 0; i < 4 * 65; i++) {
            int plane = i / 65;
            int y = i % 65;
            int answer = 0;
            for (int j = 0; answer != NO_SUCH; j++) {
                int column = j;
                answer = add(() -> x.at(plane, column, y));
            }
        }
    }

    /** OUT has the depth and the measures; samples are cleared before, so that none is above MOST. */
    private void askMeasures() {
        for (int i = 0; i < 3 * 64; i++) {
            clearRow(i / 64, i % 64);
        }
        add(() -> x.pack(1));
        add(() -> x.pack(0));
        askOut();
    }

    private void clearRow(int plane, int y) {
        try {
            for (int i = 0; i < 64; i++) {
                x.draw(plane, i, y, 1, 1, 0, 0, 0);
            }
        } catch (IndexOutOfBoundsException thrown) {
            // The row ends here, or there is none.
        }
    }
}
