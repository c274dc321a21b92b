import java.util.Arrays;

/**
 * Pictures packed sample by sample, with a bounded loss or none, and rows of bytes that tell such
 * pictures, read up to the first byte that can't be.
 */
public final class NearPicture {
    public static final int NONE = -1;

    private static final int LONGEST_SIDE = 64;
    private static final int MOST_SAMPLES = 3 * LONGEST_SIDE * LONGEST_SIDE;
    private static final int TAPE_ROOM = 32768;
    private static final int TYPED_AT_ONCE = 20;
    private static final int GREATEST_NUMBER = 65535;
    private static final int MEASURES_TOLD = 5;

    private static final int FULL_BYTE = 255;
    private static final int MARK_BEGIN = 216;
    private static final int MARK_END = 217;
    private static final int MARK_SCAN = 218;
    private static final int MARK_FRAME = 247;
    private static final int MARK_MEASURES = 248;
    private static final int MARK_REMARK = 254;
    private static final int FIRST_MARK_FREE = 224;
    private static final int LAST_MARK_FREE = 239;

    private static final int LENGTH_SCAN = 8;
    private static final int LENGTH_MEASURES = 13;
    private static final int PLANE_SHAPE = 17;

    private static final int FAULT_EARLY_END = 1;
    private static final int FAULT_NO_MARK = 2;
    private static final int FAULT_WRONG_MARK = 3;
    private static final int FAULT_LENGTH = 4;
    private static final int FAULT_CONTENT = 5;
    private static final int FAULT_MEASURES = 6;
    private static final int FAULT_DATA = 7;
    private static final int FAULT_MORE_BYTES = 8;

    private final Picture drawn = new Picture();
    private final int[] chosen = new int[MEASURES_TOLD];
    private final Bytes packed = new Bytes();
    private final Bytes tape = new Bytes();
    private final Measures scanMeasures = new Measures();
    private final Memory memory = new Memory();
    private final PlanePacker packer = new PlanePacker(scanMeasures, memory, packed);
    private final RowReader reader = new RowReader(scanMeasures, memory, tape);
    private Picture picture = new Picture();
    private Picture spare = new Picture();
    private boolean hasPicture = false;
    private int failedAt = NONE;

    public NearPicture() {
        drawn.reshape(8, 8, 1, 8);
    }

    public void canvas(int width, int height, int planes, int depth) throws IllegalArgumentException {
        if (!isSide(width) || !isSide(height) || !isPlaneCount(planes) || !isDepth(depth)) {
            throw new IllegalArgumentException();
        }
        drawn.reshape(width, height, planes, depth);
        Arrays.fill(chosen, 0);
    }

    public void draw(int plane, int x, int y, int wide, int high, int v, int w, int mask)
            throws IndexOutOfBoundsException, IllegalArgumentException {
        if (!drawn.has(plane, x, y) || !drawn.hasRoom(x, y, wide, high)) {
            throw new IndexOutOfBoundsException();
        }
        int greatest = drawn.greatest();
        if (v < 0 || v > greatest || w < 0 || w > greatest || mask < 0 || mask > GREATEST_NUMBER) {
            throw new IllegalArgumentException();
        }
        int first = drawn.index(plane, x, y);
        for (int j = 0; j < high; j++) {
            for (int i = 0; i < wide; i++) {
                int slope = v + (w - v) * (i + j) / (wide + high);
                int value = slope + (noise(i + wide * j) & mask);
                drawn.samples[first + j * drawn.width + i] = Math.max(0, Math.min(greatest, value));
            }
        }
    }

    public int at(int plane, int x, int y) throws IndexOutOfBoundsException {
        if (!drawn.has(plane, x, y)) {
            throw new IndexOutOfBoundsException();
        }
        return drawn.samples[drawn.index(plane, x, y)];
    }

    public void measures(int most, int t1, int t2, int t3, int halving) throws IllegalArgumentException {
        if (!isNumber(most) || !isNumber(t1) || !isNumber(t2) || !isNumber(t3) || !isNumber(halving)
                || most > drawn.greatest()) {
            throw new IllegalArgumentException();
        }
        chosen[0] = most;
        chosen[1] = t1;
        chosen[2] = t2;
        chosen[3] = t3;
        chosen[4] = halving;
    }

    public int pack(int near) throws IllegalArgumentException {
        if (!scanMeasures.settle(chosen, drawn.depth, near) || drawn.hasAbove(scanMeasures.most)) {
            throw new IllegalArgumentException();
        }
        packed.count = 0;
        packed.addMark(MARK_BEGIN);
        writeFrame();
        if (hasChosen()) {
            writeMeasures();
        }
        for (int plane = 0; plane < drawn.planes; plane++) {
            writeScan(plane, near);
            packer.tellPlane(drawn, plane);
            packer.bits.finish();
        }
        packed.addMark(MARK_END);
        return packed.count;
    }

    public int size() {
        return packed.count;
    }

    public int out(int i) throws IndexOutOfBoundsException {
        if (i < 0 || i >= packed.count) {
            throw new IndexOutOfBoundsException();
        }
        return packed.get(i);
    }

    public int feed(int a, int b, int c, int d, int e) throws IllegalStateException {
        if (tape.count + TYPED_AT_ONCE > TAPE_ROOM) {
            throw new IllegalStateException();
        }
        tape.addFour(a);
        tape.addFour(b);
        tape.addFour(c);
        tape.addFour(d);
        tape.addFour(e);
        return tape.count;
    }

    public void end(int n) throws IllegalArgumentException {
        if (n < 0 || n > tape.count) {
            throw new IllegalArgumentException();
        }
        tape.count = n;
    }

    public int change(int i, int by) throws IndexOutOfBoundsException, IllegalArgumentException {
        if (i < 0 || i >= tape.count) {
            throw new IndexOutOfBoundsException();
        }
        if (by < 0 || by > FULL_BYTE) {
            throw new IllegalArgumentException();
        }
        int changed = tape.get(i) ^ by;
        tape.row[i] = (byte) changed;
        return changed;
    }

    public int turn() throws IllegalStateException {
        if (packed.count > TAPE_ROOM) {
            throw new IllegalStateException();
        }
        tape.copy(packed);
        return tape.count;
    }

    public int unpack() {
        try {
            reader.readRow(spare);
        } catch (IllegalStateException refused) {
            failedAt = reader.tape.faultPlace;
            return reader.tape.fault;
        }
        Picture former = picture;
        picture = spare;
        spare = former;
        hasPicture = true;
        failedAt = NONE;
        return 0;
    }

    public int place() {
        return failedAt;
    }

    public int about(int what) throws IllegalArgumentException, IllegalStateException {
        if (what < 0 || what > 3) {
            throw new IllegalArgumentException();
        }
        if (!hasPicture) {
            throw new IllegalStateException();
        }
        switch (what) {
            case 0:
                return picture.width;
            case 1:
                return picture.height;
            case 2:
                return picture.planes;
            default:
                return picture.depth;
        }
    }

    public int sample(int plane, int x, int y) throws IllegalStateException, IndexOutOfBoundsException {
        if (!hasPicture) {
            throw new IllegalStateException();
        }
        if (!picture.has(plane, x, y)) {
            throw new IndexOutOfBoundsException();
        }
        return picture.samples[picture.index(plane, x, y)];
    }

    public int learned(int i, int what) throws IndexOutOfBoundsException, IllegalArgumentException {
        if (i < 0 || i >= Memory.PLACES) {
            throw new IndexOutOfBoundsException();
        }
        if (what < 0 || what >= Memory.KINDS) {
            throw new IllegalArgumentException();
        }
        return memory.kept[Memory.KINDS * i + what];
    }

    private static boolean isSide(int n) {
        return n >= 1 && n <= LONGEST_SIDE;
    }

    private static boolean isPlaneCount(int n) {
        return n == 1 || n == 3;
    }

    private static boolean isDepth(int n) {
        return n >= 2 && n <= 16;
    }

    private static boolean isNumber(int n) {
        return n >= 0 && n <= GREATEST_NUMBER;
    }

    private static int frameLength(int planes) {
        return 8 + 3 * planes;
    }

    private static int noise(int n) {
        int seed = n * 40503 + 12345;
        return seed * seed >>> 7;
    }

    private boolean hasChosen() {
        for (int measure : chosen) {
            if (measure != 0) {
                return true;
            }
        }
        return false;
    }

    private void writeFrame() {
        packed.addMark(MARK_FRAME);
        packed.addTwo(frameLength(drawn.planes));
        packed.add(drawn.depth);
        packed.addTwo(drawn.height);
        packed.addTwo(drawn.width);
        packed.add(drawn.planes);
        for (int plane = 0; plane < drawn.planes; plane++) {
            packed.add(plane + 1);
            packed.add(PLANE_SHAPE);
            packed.add(0);
        }
    }

    private void writeMeasures() {
        packed.addMark(MARK_MEASURES);
        packed.addTwo(LENGTH_MEASURES);
        packed.add(1);
        for (int measure : chosen) {
            packed.addTwo(measure);
        }
    }

    private void writeScan(int plane, int near) {
        packed.addMark(MARK_SCAN);
        packed.addTwo(LENGTH_SCAN);
        packed.add(1);
        packed.add(plane + 1);
        packed.add(0);
        packed.add(near);
        packed.add(0);
        packed.add(0);
    }

    /** A row of bytes that grows by doubling, so that small rows stay small and large ones are made seldom. */
    private static final class Bytes {
        byte[] row = new byte[64];
        int count = 0;

        int get(int i) {
            return row[i] & FULL_BYTE;
        }

        void add(int value) {
            if (count == row.length) {
                row = Arrays.copyOf(row, 2 * row.length);
            }
            row[count] = (byte) value;
            count++;
        }

        void addTwo(int value) {
            add(value >> 8);
            add(value);
        }

        void addFour(int value) {
            addTwo(value >> 16);
            addTwo(value);
        }

        void addMark(int mark) {
            add(FULL_BYTE);
            add(mark);
        }

        void copy(Bytes other) {
            if (row.length < other.count) {
                row = new byte[other.row.length];
            }
            System.arraycopy(other.row, 0, row, 0, other.count);
            count = other.count;
        }
    }

    private static final class Picture {
        int width = 0;
        int height = 0;
        int planes = 0;
        int depth = 0;
        int[] samples = new int[0];

        void reshape(int width, int height, int planes, int depth) {
            this.width = width;
            this.height = height;
            this.planes = planes;
            this.depth = depth;
            int needed = width * height * planes;
            if (samples.length < needed) {
                samples = new int[Math.min(MOST_SAMPLES, Math.max(needed, 2 * samples.length))];
            } else {
                Arrays.fill(samples, 0);
            }
        }

        int greatest() {
            return (1 << depth) - 1;
        }

        boolean has(int plane, int x, int y) {
            return plane >= 0 && plane < planes && x >= 0 && x < width && y >= 0 && y < height;
        }

        /** For x and y that are there: sums could wrap, differences can't. */
        boolean hasRoom(int x, int y, int wide, int high) {
            return wide >= 1 && wide <= width - x && high >= 1 && high <= height - y;
        }

        int index(int plane, int x, int y) {
            return (plane * height + y) * width + x;
        }

        boolean hasAbove(int most) {
            int used = width * height * planes;
            for (int i = 0; i < used; i++) {
                if (samples[i] > most) {
                    return true;
                }
            }
            return false;
        }
    }

    /** The MEASURES of one scan, and what follows from them. */
    private static final class Measures {
        private static final int GREATEST_NEAR = 255;
        private static final int PLAIN_HALVING = 64;
        private static final int[] PLAIN_LEAST = {2, 3, 4};
        private static final int[] PLAIN_OF_BYTES = {3, 7, 21};
        private static final int[] PLAIN_BY_NEAR = {3, 5, 7};

        int most = 0;
        int near = 0;
        int t1 = 0;
        int t2 = 0;
        int t3 = 0;
        int halving = 0;
        int step = 1;
        int range = 0;
        int rangeBits = 0;
        int longest = 0;

        /** Takes MOST, T1, T2, T3, HALVING as they are told; false if what comes of them is not as it must be. */
        boolean settle(int[] told, int depth, int wantedNear) {
            int greatest = (1 << depth) - 1;
            most = told[0] == 0 ? greatest : told[0];
            near = wantedNear;
            if (most > greatest || near < 0 || near > GREATEST_NEAR || near > most / 2) {
                return false;
            }
            t1 = told[1] == 0 ? plainThreshold(0, near + 1) : told[1];
            t2 = told[2] == 0 ? plainThreshold(1, t1) : told[2];
            t3 = told[3] == 0 ? plainThreshold(2, t2) : told[3];
            halving = told[4] == 0 ? PLAIN_HALVING : told[4];
            if (t1 <= near || t2 < t1 || t3 < t2 || t3 > most) {
                return false;
            }
            if (halving < 3 || halving > Math.max(255, most)) {
                return false;
            }
            step = 2 * near + 1;
            range = (most + 2 * near) / step + 1;
            rangeBits = bitsFor(range);
            int sampleBits = Math.max(2, bitsFor(most + 1));
            longest = 2 * (sampleBits + Math.max(8, sampleBits));
            return true;
        }

        private int plainThreshold(int i, int least) {
            int plain;
            if (most >= 128) {
                int factor = (Math.min(most, 4095) + 128) / 256;
                plain = factor * (PLAIN_OF_BYTES[i] - PLAIN_LEAST[i]) + PLAIN_LEAST[i] + PLAIN_BY_NEAR[i] * near;
            } else {
                int factor = 256 / (most + 1);
                plain = Math.max(PLAIN_LEAST[i], PLAIN_OF_BYTES[i] / factor + PLAIN_BY_NEAR[i] * near);
            }
            return plain < least || plain > most ? least : plain;
        }

        /** The least number of bits that tell so many numbers apart. */
        private static int bitsFor(int numbers) {
            int bits = 0;
            while (bits < 30 && 1 << bits < numbers) {
                bits++;
            }
            return bits;
        }

        int grade(int slope) {
            int height = Math.abs(slope);
            int grade = height <= near ? 0 : height < t1 ? 1 : height < t2 ? 2 : height < t3 ? 3 : 4;
            return slope < 0 ? -grade : grade;
        }

        int within(int value) {
            return Math.max(0, Math.min(most, value));
        }

        int errorOf(int difference) {
            int error = difference > 0 ? (difference + near) / step : -((near - difference) / step);
            if (error < 0) {
                error += range;
            }
            return error >= (range + 1) / 2 ? error - range : error;
        }

        boolean isError(int error) {
            return error >= -(range / 2) && error <= (range - 1) / 2;
        }

        int rebuilt(int guess, int error) {
            int value = guess + error * step;
            if (value < -near) {
                value += range * step;
            } else if (value > most + near) {
                value -= range * step;
            }
            return within(value);
        }
    }

    /**
     * The PLACES, behind them the STOPS, and the PACE. A plane that is told to its end leaves its
     * numbers in kept; one that is not leaves kept as it was.
     */
    private static final class Memory {
        static final int FIRST_STOP = 365;
        static final int PLACES = 367;
        static final int KINDS = 4;
        private static final int A = 0;
        private static final int B = 1;
        private static final int C = 2;
        private static final int N = 3;
        private static final int LOWEST_C = -128;
        private static final int HIGHEST_C = 127;
        private static final int[] RUN_BITS = {
            0, 0, 0, 0, 1, 1, 1, 1, 2, 2, 2, 2, 3, 3, 3, 3,
            4, 4, 5, 5, 6, 6, 7, 7, 8, 9, 10, 11, 12, 13, 14, 15};

        int[] kept = new int[KINDS * PLACES];
        private int[] now = new int[KINDS * PLACES];
        private int pace = 0;

        void begin(int range) {
            int first = Math.max(2, (range + 32) / 64);
            Arrays.fill(now, 0);
            for (int i = 0; i < PLACES; i++) {
                now[KINDS * i + A] = first;
                now[KINDS * i + N] = 1;
            }
            pace = 0;
        }

        void keep() {
            int[] former = kept;
            kept = now;
            now = former;
        }

        int runBits() {
            return RUN_BITS[pace];
        }

        void quicken() {
            pace = Math.min(31, pace + 1);
        }

        void slacken() {
            pace = Math.max(0, pace - 1);
        }

        int correction(int place) {
            return now[KINDS * place + C];
        }

        /** k of a place, or of STOP 1, which has half of N more. */
        int lowBits(int place, boolean halfMore) {
            int n = now[KINDS * place + N];
            int a = now[KINDS * place + A] + (halfMore ? n / 2 : 0);
            int k = 0;
            while (k < 30 && n << k < a) {
                k++;
            }
            return k;
        }

        boolean leansLow(int place) {
            return 2 * now[KINDS * place + B] <= -now[KINDS * place + N];
        }

        boolean isSeldomBelow(int stop) {
            return 2 * now[KINDS * stop + B] < now[KINDS * stop + N];
        }

        void learnSample(int place, int error, Measures measures) {
            int i = KINDS * place;
            now[i + A] += Math.abs(error);
            now[i + B] += error * measures.step;
            count(i, measures.halving);
            correct(i);
        }

        void learnStop(int stop, int error, int more, int halving) {
            int i = KINDS * stop;
            now[i + A] += more;
            now[i + B] += error < 0 ? 1 : 0;
            count(i, halving);
        }

        private void count(int i, int halving) {
            if (now[i + N] == halving) {
                now[i + A] >>= 1;
                now[i + B] >>= 1;
                now[i + N] >>= 1;
            }
            now[i + N]++;
        }

        private void correct(int i) {
            int n = now[i + N];
            if (now[i + B] <= -n) {
                now[i + B] = Math.max(1 - n, now[i + B] + n);
                now[i + C] = Math.max(LOWEST_C, now[i + C] - 1);
            } else if (now[i + B] > 0) {
                now[i + B] = Math.min(0, now[i + B] - n);
                now[i + C] = Math.min(HIGHEST_C, now[i + C] + 1);
            }
        }
    }

    /**
     * What packing and unpacking a plane's DATA have in common. A row of samples as they are told
     * stands one to the right in its array, so that the ones beside the row have room in it.
     */
    private abstract static class PlaneTeller {
        final Measures measures;
        final Memory memory;
        int[] above = new int[LONGEST_SIDE + 2];
        int[] here = new int[LONGEST_SIDE + 2];
        int[] samples = new int[0];
        int width = 0;
        int rowStart = 0;
        int a = 0;
        int b = 0;
        int c = 0;
        int place = 0;
        int stop = 0;
        int k = 0;
        int guess = 0;
        boolean turned = false;
        boolean swapped = false;

        PlaneTeller(Measures measures, Memory memory) {
            this.measures = measures;
            this.memory = memory;
        }

        /** Tells how many samples from x on stay the same, and sets them. */
        abstract int tellRun(int x);

        abstract void tellStop(int x);

        abstract void tellSample(int x);

        abstract void closeRow();

        void tellPlane(Picture picture, int plane) {
            samples = picture.samples;
            width = picture.width;
            memory.begin(measures.range);
            Arrays.fill(here, 0);
            for (int y = 0; y < picture.height; y++) {
                rowStart = picture.index(plane, 0, y);
                openRow();
                for (int x = 0; x < width; x++) {
                    look(x);
                    if (place != 0) {
                        aimAtSample();
                        tellSample(x);
                        continue;
                    }
                    x += tellRun(x);
                    if (x < width) {
                        aimAtStop(x);
                        tellStop(x);
                    }
                }
                closeRow();
            }
            memory.keep();
        }

        /** The row before becomes the one above; it keeps what stood left of it, which is c of the first sample. */
        private void openRow() {
            int[] former = above;
            above = here;
            here = former;
            here[0] = above[1];
            above[width + 1] = above[width];
        }

        /** The first GRADE that is not 0 outweighs all behind it, so their sum has its sign, and is 0 for a RUN. */
        private void look(int x) {
            a = here[x];
            b = above[x + 1];
            c = above[x];
            int sum = 81 * measures.grade(above[x + 2] - b) + 9 * measures.grade(b - c) + measures.grade(c - a);
            turned = sum < 0;
            place = Math.abs(sum);
        }

        private void aimAtSample() {
            int less = Math.min(a, b);
            int greater = Math.max(a, b);
            int plain = c >= greater ? less : c <= less ? greater : a + b - c;
            int correction = memory.correction(place);
            guess = measures.within(turned ? plain - correction : plain + correction);
            k = memory.lowBits(place, false);
            swapped = measures.near == 0 && k == 0 && memory.leansLow(place);
        }

        private void aimAtStop(int x) {
            b = above[x + 1];
            stop = Math.abs(a - b) <= measures.near ? 1 : 0;
            place = Memory.FIRST_STOP + stop;
            guess = stop == 1 ? a : b;
            turned = stop == 0 && a > b;
            k = memory.lowBits(place, stop == 1);
            swapped = k == 0 && memory.isSeldomBelow(place);
        }

        int stopLimit() {
            return measures.longest - 1 - memory.runBits();
        }

        void setRun(int x, int n) {
            for (int i = 1; i <= n; i++) {
                here[x + i] = a;
            }
        }

        void takeSample(int x, int error) {
            here[x + 1] = measures.rebuilt(guess, turned ? -error : error);
            memory.learnSample(place, error, measures);
        }

        void takeStop(int x, int error, int number) {
            here[x + 1] = measures.rebuilt(guess, turned ? -error : error);
            memory.learnStop(place, error, (number + 1 - stop) / 2, measures.halving);
            memory.slacken();
        }
    }

    private static final class PlanePacker extends PlaneTeller {
        final BitWriter bits;

        PlanePacker(Measures measures, Memory memory, Bytes into) {
            super(measures, memory);
            bits = new BitWriter(into);
        }

        int tellRun(int x) {
            int n = runLength(x);
            setRun(x, n);
            int left = n;
            for (int done = 1 << memory.runBits(); left >= done; done = 1 << memory.runBits()) {
                bits.write(1, 1);
                left -= done;
                memory.quicken();
            }
            if (x + n < width) {
                bits.write(0, 1);
                bits.write(left, memory.runBits());
            } else if (left > 0) {
                bits.write(1, 1);
            }
            return n;
        }

        private int runLength(int x) {
            int n = 0;
            while (x + n < width && Math.abs(samples[rowStart + x + n] - a) <= measures.near) {
                n++;
            }
            return n;
        }

        private int errorAt(int x) {
            int difference = samples[rowStart + x] - guess;
            return measures.errorOf(turned ? -difference : difference);
        }

        void tellSample(int x) {
            int error = errorAt(x);
            int number = error < 0 ? -2 * error - 1 : 2 * error;
            if (swapped) {
                number = error < 0 ? number - 1 : number + 1;
            }
            bits.writeNumber(number, k, measures.longest - measures.rangeBits - 1, measures.rangeBits);
            takeSample(x, error);
        }

        void tellStop(int x) {
            int error = errorAt(x);
            int number = 2 * Math.abs(error) - stop;
            if (error > 0 && swapped || error < 0 && !swapped) {
                number--;
            }
            bits.writeNumber(number, k, stopLimit() - measures.rangeBits - 1, measures.rangeBits);
            takeStop(x, error, number);
        }

        /** The canvas keeps its own samples, not those that are told. */
        void closeRow() {
        }
    }

    private static final class PlaneUnpacker extends PlaneTeller {
        private final TapeReader tape;

        PlaneUnpacker(Measures measures, Memory memory, TapeReader tape) {
            super(measures, memory);
            this.tape = tape;
        }

        int tellRun(int x) {
            int room = width - x;
            int n = 0;
            while (n < room && tape.readBits(1) == 1) {
                int done = 1 << memory.runBits();
                if (done <= room - n) {
                    memory.quicken();
                }
                n += Math.min(done, room - n);
            }
            if (n < room) {
                int stopPlace = tape.openPlace();
                n += tape.readBits(memory.runBits());
                if (n >= room) {
                    tape.refuse(FAULT_DATA, stopPlace);
                }
            }
            setRun(x, n);
            return n;
        }

        void tellSample(int x) {
            int number = tape.readNumber(k, measures.longest - measures.rangeBits - 1, measures.rangeBits);
            boolean below = (number % 2 == 1) != swapped;
            int error = below ? -(number / 2) - 1 : number / 2;
            checkError(error);
            takeSample(x, error);
        }

        void tellStop(int x) {
            int number = tape.readNumber(k, stopLimit() - measures.rangeBits - 1, measures.rangeBits);
            int doubled = number + stop;
            boolean below = (doubled % 2 == 1) != swapped;
            int size = (doubled + 1) / 2;
            int error = below ? -size : size;
            checkError(error);
            takeStop(x, error, number);
        }

        private void checkError(int error) {
            if (!measures.isError(error)) {
                tape.refuse(FAULT_DATA, tape.numberPlace);
            }
        }

        void closeRow() {
            System.arraycopy(here, 1, samples, rowStart, width);
        }
    }

    private static final class BitWriter {
        private final Bytes into;
        private int open = 0;
        private int free = 8;

        BitWriter(Bytes into) {
            this.into = into;
        }

        void write(int value, int count) {
            for (int i = count - 1; i >= 0; i--) {
                open = 2 * open + (value >> i & 1);
                free--;
                if (free == 0) {
                    into.add(open);
                    free = open == FULL_BYTE ? 7 : 8;
                    open = 0;
                }
            }
        }

        void writeNumber(int number, int k, int mostZeros, int wholeBits) {
            int zeros = number >> k;
            if (zeros < mostZeros) {
                write(0, zeros);
                write(1, 1);
                write(number, k);
            } else {
                write(0, mostZeros);
                write(1, 1);
                write(number - 1, wholeBits);
            }
        }

        /** A byte behind a full one has 7 bits free even when none is in it: it follows, too. */
        void finish() {
            if (free < 8) {
                into.add(open << free);
            }
            free = 8;
            open = 0;
        }
    }

    /** Reads the TAPE by bytes and by bits, and keeps the first FAULT, which it leaves by an exception. */
    private static final class TapeReader {
        private final Bytes bytes;
        private int next = 0;
        private int open = 0;
        private int bitsLeft = 0;
        int numberPlace = NONE;
        int fault = 0;
        int faultPlace = NONE;

        TapeReader(Bytes bytes) {
            this.bytes = bytes;
        }

        void begin() {
            next = 0;
        }

        void refuse(int reason, int where) {
            fault = reason;
            faultPlace = where;
            throw new IllegalStateException();
        }

        /** Where the byte stands that was read last. */
        int openPlace() {
            return next - 1;
        }

        int readByte() {
            if (next >= bytes.count) {
                refuse(FAULT_EARLY_END, bytes.count);
            }
            int value = bytes.get(next);
            next++;
            return value;
        }

        int readTwo() {
            int high = readByte();
            return 256 * high + readByte();
        }

        void expect(int value) {
            if (readByte() != value) {
                refuse(FAULT_CONTENT, openPlace());
            }
        }

        int readMark() {
            if (readByte() != FULL_BYTE) {
                refuse(FAULT_NO_MARK, openPlace());
            }
            int mark = FULL_BYTE;
            for (int i = bytes.count - next; i >= 0 && mark == FULL_BYTE; i--) {
                mark = readByte();
            }
            return mark;
        }

        /** May go beyond the end: the MARK that must follow is then missed. */
        void skip(int count) {
            next += count;
        }

        void checkAllRead() {
            if (next < bytes.count) {
                refuse(FAULT_MORE_BYTES, next);
            }
        }

        void beginData() {
            open = 0;
            bitsLeft = 0;
        }

        /** The byte behind a full one was looked at when that one was opened: it is there, and no MARK. */
        void endData() {
            if (open == FULL_BYTE) {
                next++;
            }
        }

        int readBits(int count) {
            int value = 0;
            for (int i = 0; i < count; i++) {
                if (bitsLeft == 0) {
                    openByte();
                }
                bitsLeft--;
                value = 2 * value + (open >> bitsLeft & 1);
            }
            return value;
        }

        private void openByte() {
            boolean ended = next >= bytes.count;
            boolean full = !ended && bytes.get(next) == FULL_BYTE;
            boolean early = ended || full && next + 1 >= bytes.count;
            if (early || full && bytes.get(next + 1) >= 128) {
                fault = early ? FAULT_EARLY_END : FAULT_DATA;
                faultPlace = early ? bytes.count : next;
                throw new IllegalStateException();
            }
            bitsLeft = open == FULL_BYTE ? 7 : 8;
            open = bytes.get(next);
            next++;
        }

        int readNumber(int k, int mostZeros, int wholeBits) {
            int bit = readBits(1);
            numberPlace = openPlace();
            int zeros = 0;
            while (bit == 0 && zeros < mostZeros) {
                zeros++;
                bit = readBits(1);
            }
            if (bit == 0) {
                refuse(FAULT_DATA, numberPlace);
            }
            return zeros < mostZeros ? (zeros << k) + readBits(k) : 1 + readBits(wholeBits);
        }
    }

    /** Reads a PACKED ROW by its sections; a FAULT leaves it as an exception of the TAPE's reader. */
    private static final class RowReader {
        final TapeReader tape;
        private final Measures measures;
        private final PlaneUnpacker unpacker;
        private final int[] told = new int[MEASURES_TOLD];
        private final int[] names = new int[3];
        private boolean framed = false;
        private int planesLeft = 0;

        RowReader(Measures measures, Memory memory, Bytes bytes) {
            this.measures = measures;
            tape = new TapeReader(bytes);
            unpacker = new PlaneUnpacker(measures, memory, tape);
        }

        void readRow(Picture into) {
            tape.begin();
            framed = false;
            planesLeft = 0;
            Arrays.fill(told, 0);
            if (tape.readMark() != MARK_BEGIN) {
                refuseMark();
            }
            int mark = tape.readMark();
            // Every section takes bytes of the TAPE, so there are fewer than it has.
            for (int i = 0; i < TAPE_ROOM && mark != MARK_END; i++) {
                if (mark == MARK_SCAN) {
                    readScan(into);
                    tape.beginData();
                    unpacker.tellPlane(into, into.planes - planesLeft);
                    tape.endData();
                    planesLeft--;
                } else {
                    readOther(mark, into);
                }
                mark = tape.readMark();
            }
            if (!framed || planesLeft > 0) {
                refuseMark();
            }
            tape.checkAllRead();
        }

        private void refuseMark() {
            tape.refuse(FAULT_WRONG_MARK, tape.openPlace());
        }

        private void readOther(int mark, Picture into) {
            if (mark == MARK_FRAME && !framed) {
                readFrame(into);
            } else if (mark == MARK_MEASURES) {
                readMeasures();
            } else if (mark >= FIRST_MARK_FREE && mark <= LAST_MARK_FREE || mark == MARK_REMARK) {
                readFree();
            } else {
                refuseMark();
            }
        }

        private void checkLength(boolean right, int where) {
            if (!right) {
                tape.refuse(FAULT_LENGTH, where);
            }
        }

        private void checkContent(boolean right, int where) {
            if (!right) {
                tape.refuse(FAULT_CONTENT, where);
            }
        }

        private void readFree() {
            int length = tape.readTwo();
            checkLength(length >= 2, tape.openPlace() - 1);
            tape.skip(length - 2);
        }

        private void readFrame(Picture into) {
            int length = tape.readTwo();
            int lengthPlace = tape.openPlace() - 1;
            int depth = tape.readByte();
            checkContent(isDepth(depth), tape.openPlace());
            int height = tape.readTwo();
            checkContent(isSide(height), tape.openPlace() - 1);
            int width = tape.readTwo();
            checkContent(isSide(width), tape.openPlace() - 1);
            int planes = tape.readByte();
            checkContent(isPlaneCount(planes), tape.openPlace());
            checkLength(length == frameLength(planes), lengthPlace);
            for (int plane = 0; plane < planes; plane++) {
                readName(plane);
                tape.expect(PLANE_SHAPE);
                tape.expect(0);
            }
            into.reshape(width, height, planes, depth);
            framed = true;
            planesLeft = planes;
        }

        private void readName(int plane) {
            names[plane] = tape.readByte();
            for (int former = 0; former < plane; former++) {
                checkContent(names[former] != names[plane], tape.openPlace());
            }
        }

        private void readMeasures() {
            int length = tape.readTwo();
            checkLength(length == LENGTH_MEASURES, tape.openPlace() - 1);
            tape.expect(1);
            for (int i = 0; i < MEASURES_TOLD; i++) {
                told[i] = tape.readTwo();
            }
        }

        private void readScan(Picture into) {
            if (!framed || planesLeft == 0) {
                refuseMark();
            }
            int length = tape.readTwo();
            checkLength(length == LENGTH_SCAN, tape.openPlace() - 1);
            tape.expect(1);
            tape.expect(names[into.planes - planesLeft]);
            tape.expect(0);
            int near = tape.readByte();
            int nearPlace = tape.openPlace();
            tape.expect(0);
            tape.expect(0);
            if (!measures.settle(told, into.depth, near)) {
                tape.refuse(FAULT_MEASURES, nearPlace);
            }
        }
    }
}
