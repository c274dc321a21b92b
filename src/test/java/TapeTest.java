/** Promises 9 to 12: feed, end, change, turn; how much turn has room for is in LongRowTest. */
public final class TapeTest {
    private static final Check CHECK = new Check("TapeTest");

    public static void main(String[] args) {
        feedOrder();
        endCuts();
        changeFlips();
        turnCopies();
        fullTape();
        CHECK.finish();
    }

    private static int[] tapeOf(NearPicture x, int n) {
        int[] bytes = new int[n];
        for (int i = 0; i < n; i++) {
            bytes[i] = x.change(i, 0);
        }
        return bytes;
    }

    private static void feedOrder() {
        NearPicture x = new NearPicture();
        CHECK.same("first twenty", x.feed(0x01020304, 0xF5060708, 0x090A0B0C, 0x0D0E0F10, 0x111213FF), 20);
        CHECK.same("forty", x.feed(0, 0, 0, 0, 0x000000AB), 40);
        int[] bytes = tapeOf(x, 40);
        int[] due = {1, 2, 3, 4, 0xF5, 6, 7, 8, 9, 10, 11, 12, 13, 14, 15, 16, 17, 18, 19, 255};
        for (int i = 0; i < 20; i++) {
            CHECK.same("byte " + i, bytes[i], due[i]);
        }
        CHECK.same("byte 38", bytes[38], 0);
        CHECK.same("byte 39", bytes[39], 0xAB);
        CHECK.same("OUT is another row", x.size(), 0);
    }

    private static void endCuts() {
        NearPicture x = new NearPicture();
        x.feed(1, 2, 3, 4, 5);
        CHECK.notAsSaid("end below 0", () -> x.end(-1));
        CHECK.notAsSaid("end above", () -> x.end(21));
        x.end(20);
        CHECK.same("end at the end", x.change(19, 0), 5);
        x.end(7);
        CHECK.noSuch("cut", () -> x.change(7, 0));
        CHECK.notAsSaid("no longer there", () -> x.end(8));
        CHECK.same("more behind the cut", x.feed(0x7F000000, 0, 0, 0, 0), 27);
        CHECK.same("just behind it", x.change(7, 0), 0x7F);
        CHECK.same("what was cut is gone", x.change(11, 0), 0);
        CHECK.same("before it", x.change(3, 0), 1);
        x.end(0);
        CHECK.noSuch("empty", () -> x.change(0, 0));
    }

    private static void changeFlips() {
        NearPicture x = new NearPicture();
        x.feed(0x0F000000, 0, 0, 0, 0);
        CHECK.same("flip", x.change(0, 0xFF), 0xF0);
        CHECK.same("it stays", x.change(0, 0x11), 0xE1);
        CHECK.same("none flipped", x.change(0, 0), 0xE1);
        CHECK.same("the last one", x.change(19, 255), 255);
        CHECK.noSuch("before the first", () -> x.change(-1, 0));
        CHECK.noSuch("behind the last", () -> x.change(20, 0));
        CHECK.noSuch("no byte comes first", () -> x.change(20, 256));
        CHECK.notAsSaid("by -1", () -> x.change(0, -1));
        CHECK.notAsSaid("by 256", () -> x.change(0, 256));
        CHECK.same("refused ones change nothing", x.change(0, 0), 0xE1);
    }

    private static void turnCopies() {
        NearPicture x = new NearPicture();
        x.feed(1, 1, 1, 1, 1);
        CHECK.same("an empty OUT", x.turn(), 0);
        CHECK.noSuch("so the tape is empty", () -> x.change(0, 0));
        CHECK.same("pack", x.pack(0), 30);
        x.feed(1, 1, 1, 1, 1);
        x.feed(1, 1, 1, 1, 1);
        CHECK.same("turn", x.turn(), 30);
        int[] bytes = tapeOf(x, 30);
        for (int i = 0; i < 30; i++) {
            CHECK.same("turned byte " + i, bytes[i], x.out(i));
        }
        CHECK.noSuch("and no more", () -> x.change(30, 0));
        x.change(0, 255);
        CHECK.same("OUT stays", x.out(0), 255);
        CHECK.same("all of it", x.size(), 30);
        x.end(5);
        CHECK.same("OUT stays when the tape is cut", x.size(), 30);
        CHECK.same("typing goes on behind it", x.feed(0, 0, 0, 0, 0), 25);
    }

    private static void fullTape() {
        NearPicture x = new NearPicture();
        x.canvas(64, 64, 3, 16);
        for (int plane = 0; plane < 3; plane++) {
            x.draw(plane, 0, 0, 64, 64, 0, 0, 65535);
        }
        x.pack(0);
        int typed = x.turn();
        CHECK.holds("a tape that some hundred calls can fill", typed > 24000);
        int cut = typed - (typed - 8) % 20;
        x.end(cut);
        for (int n = cut + 20; n <= 32768; n += 20) {
            CHECK.same("room for " + n, x.feed(n, 0, 0, 0, 7), n);
        }
        CHECK.notNow("no room", () -> x.feed(0, 0, 0, 0, 0));
        CHECK.same("the last byte there is", x.change(32767, 0), 7);
        x.end(32749);
        CHECK.notNow("room for 19", () -> x.feed(0, 0, 0, 0, 0));
        x.end(32748);
        CHECK.same("room for 20", x.feed(0, 0, 0, 0, 9), 32768);
        CHECK.same("and they are there", x.change(32767, 0), 9);
    }
}
