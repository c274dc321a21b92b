/** Promises 6, 13, 16 and 17 together: what was packed comes back, no further away than NEAR. */
public final class RoundTripTest {
    private static final Check CHECK = new Check("RoundTripTest");
    private static int seed = 1;

    public static void main(String[] args) {
        for (int depth = 2; depth <= 16; depth++) {
            for (int round = 0; round < 12; round++) {
                tryOne(depth, round);
            }
        }
        CHECK.finish();
    }

    private static int pick(int below) {
        seed = seed * 1103515245 + 12345;
        return (seed >>> 8) % below;
    }

    private static void tryOne(int depth, int round) {
        NearPicture x = new NearPicture();
        int width = round == 0 ? 64 : 1 + pick(24);
        int height = round == 1 ? 64 : 1 + pick(16);
        int planes = round % 4 == 3 ? 3 : 1;
        int greatest = (1 << depth) - 1;
        x.canvas(width, height, planes, depth);
        for (int i = 0; i < 6 * planes; i++) {
            int left = pick(width);
            int top = pick(height);
            int v = pick(greatest + 1);
            int w = pick(2) == 0 ? v : pick(greatest + 1);
            int mask = pick(2) == 0 ? 0 : pick(greatest + 1);
            x.draw(i % planes, left, top, 1 + pick(width - left), 1 + pick(height - top), v, w, mask);
        }
        int near = round < 4 ? 0 : pick(Math.min(255, greatest / 2) + 1) / (round < 8 ? 16 : 1);
        if (round % 3 == 2) {
            int first = near + 1 + pick(1 + (greatest - near - 1) / 2);
            x.measures(greatest, first, first, first + pick(greatest - first + 1), 3 + pick(9));
        }
        String what = "depth " + depth + " round " + round;
        comesBack(what, x, near, new int[] {width, height, planes, depth});
    }

    private static void comesBack(String what, NearPicture x, int near, int[] shape) {
        CHECK.holds(what + " packs", x.pack(near) > 0);
        int[] packed = new int[4 * 367];
        for (int i = 0; i < packed.length; i++) {
            packed[i] = x.learned(i / 4, i % 4);
        }
        x.turn();
        CHECK.same(what + " unpacks", x.unpack(), 0);
        for (int i = 0; i < 4; i++) {
            CHECK.same(what + " about " + i, x.about(i), shape[i]);
        }
        int count = shape[0] * shape[1] * shape[2];
        for (int i = 0; i < count; i++) {
            int column = i % shape[0];
            int row = i / shape[0] % shape[1];
            int plane = i / shape[0] / shape[1];
            int away = Math.abs(x.sample(plane, column, row) - x.at(plane, column, row));
            CHECK.holds(what + " sample " + i + " is " + away + " away, with " + near, away <= near);
        }
        for (int i = 0; i < packed.length; i++) {
            CHECK.same(what + " learned " + i / 4 + " " + i % 4, x.learned(i / 4, i % 4), packed[i]);
        }
    }
}
