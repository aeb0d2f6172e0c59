/**
 * A simulator of clock recovery: a transmitter with a clock that is off and jitters, a line, and a
 * receiver that recovers the clock, the bits and the frames from it.
 */
public final class Phaselock {
    private static final int QUARTER_BIT = 16384;
    private static final int HALF_BIT = 32768;
    private static final int THREE_QUARTERS_BIT = 49152;
    private static final int WHOLE_BIT = 65536;
    private static final int NOMINAL_STEP = 4096;

    private static final int MAX_OFFSET = 300;
    private static final int MAX_JITTER = 2000;
    private static final int MAX_GAIN = 64;
    private static final int MAX_TICKS = 800;

    private static final int FRAME_LENGTH = 24;
    private static final int SYNC_LENGTH = 6;
    // The sync word 1, 1, 0, 1, 0, 0, the bit that is sent first being the highest one.
    private static final int SYNC_WORD = 52;

    private static final int BANG_BANG = 0;
    private static final int HOGGE = 1;
    private static final int MULTIPLYING = 2;
    private static final int GARDNER = 3;
    private static final int EARLY_LATE = 4;

    private static final int NO_STROBE = 0;
    private static final int LATE_STROBE = 1;
    private static final int MIDDLE_STROBE = 2;
    private static final int EARLY_STROBE = 3;
    private static final int DATA_STROBE = 4;

    private final Transmitter transmitter = new Transmitter();
    private final LineMemory memory = new LineMemory();
    private final EdgeLog edges = new EdgeLog();
    private final Oscillator oscillator = new Oscillator();
    private final PhaseDetector detector = new PhaseDetector();
    private final LoopFilter filter = new LoopFilter();
    private final BitLog bits = new BitLog();
    private final SlipCounter slips = new SlipCounter();
    private final PhaseLog phases = new PhaseLog();
    private final Aligner aligner = new Aligner();

    public Phaselock() {
    }

    // ---- settings

    public int setOffset(int offset) throws IllegalArgumentException {
        if (!isWithin(offset, -MAX_OFFSET, MAX_OFFSET)) {
            throw new IllegalArgumentException("offset is out of range");
        }
        transmitter.step = NOMINAL_STEP + offset;
        return transmitter.step;
    }

    public void setJitter(int jitter, int seed) throws IllegalArgumentException {
        if (!isWithin(jitter, 0, MAX_JITTER)) {
            throw new IllegalArgumentException("jitter is out of range");
        }
        if (seed < 0) {
            throw new IllegalArgumentException("seed is out of range");
        }
        transmitter.jitter = jitter;
        transmitter.randomState = seed;
    }

    public int setDetector(int detector) throws IllegalArgumentException {
        if (!isWithin(detector, BANG_BANG, EARLY_LATE)) {
            throw new IllegalArgumentException("detector is out of range");
        }
        int before = this.detector.kind;
        this.detector.kind = detector;
        return before;
    }

    public void setGains(int p, int i) throws IllegalArgumentException {
        if (!isWithin(p, 0, MAX_GAIN)) {
            throw new IllegalArgumentException("p is out of range");
        }
        if (!isWithin(i, 0, MAX_GAIN)) {
            throw new IllegalArgumentException("i is out of range");
        }
        filter.proportionalGain = p;
        filter.integralGain = i;
    }

    public int setPhase(int phase) throws IllegalArgumentException {
        if (!isWithin(phase, 0, WHOLE_BIT - 1)) {
            throw new IllegalArgumentException("phase is out of range");
        }
        int before = oscillator.phase;
        oscillator.phase = phase;
        return before;
    }

    public void release() {
        filter.integral = 0;
        filter.control = 0;
    }

    // ---- time

    public int run(int ticks) throws IllegalArgumentException {
        if (!isWithin(ticks, 1, MAX_TICKS)) {
            throw new IllegalArgumentException("ticks is out of range");
        }
        int before = bits.count;
        for (int tick = 0; tick < ticks; tick++) {
            passTick();
        }
        return bits.count - before;
    }

    public int ticks() {
        return edges.ticks;
    }

    // ---- the line and the loop

    public int sent() {
        return transmitter.number;
    }

    public int line() {
        return transmitter.value;
    }

    public int level() {
        return memory.findLevel();
    }

    public int sender() {
        return transmitter.phase;
    }

    public int receiver() {
        return oscillator.phase;
    }

    public int error() {
        return filter.error;
    }

    public int integral() {
        return filter.integral;
    }

    public int control() {
        return filter.control;
    }

    // ---- what was received

    public int received() {
        return bits.count;
    }

    public int bit(int ago) throws IndexOutOfBoundsException {
        if (!bits.remembers(ago)) {
            throw new IndexOutOfBoundsException("there is no such bit");
        }
        return bits.findBit(ago);
    }

    public int phase() throws IllegalStateException {
        if (phases.count == 0) {
            throw new IllegalStateException("there was no data strobe");
        }
        return phases.latest;
    }

    public int repeated() {
        return slips.repeated;
    }

    public int skipped() {
        return slips.skipped;
    }

    public boolean isLocked() {
        return phases.isSteady();
    }

    public int wander() {
        return phases.sumAbsolutes();
    }

    // ---- frames

    public int alignment() {
        return aligner.state;
    }

    public int frames() {
        return aligner.frames;
    }

    public int losses() {
        return aligner.losses;
    }

    // ---- the second way

    public int bestPhase() {
        int best = 0;
        int leastCost = edges.sumCosts(0);
        for (int remainder = 1; remainder < EdgeLog.REMAINDERS; remainder++) {
            int cost = edges.sumCosts(remainder);
            if (cost < leastCost) {
                leastCost = cost;
                best = remainder;
            }
        }
        return best;
    }

    public int cost(int remainder) throws IllegalArgumentException {
        if (!isWithin(remainder, 0, EdgeLog.REMAINDERS - 1)) {
            throw new IllegalArgumentException("remainder is out of range");
        }
        return edges.sumCosts(remainder);
    }

    // ---- the steps of a tick

    private void passTick() {
        transmitter.advance();
        memory.remember(transmitter.value);
        edges.add(memory.hasChangedSince(1));
        detector.watchLine(memory, oscillator.phase);
        actOnStrobe(oscillator.advance(filter.control));
    }

    private void actOnStrobe(int strobe) {
        switch (strobe) {
            case LATE_STROBE:
                if (detector.kind == EARLY_LATE) {
                    filter.takeError(detector.measureLate(memory.findLevel()));
                }
                break;
            case MIDDLE_STROBE:
                detector.keepMiddle(transmitter.value, memory.findLevel());
                break;
            case EARLY_STROBE:
                detector.keepEarly(memory.findLevel());
                break;
            case DATA_STROBE:
                actOnDataStrobe();
                break;
            default:
                break;
        }
    }

    private void actOnDataStrobe() {
        int value = transmitter.value;
        int level = memory.findLevel();
        if (detector.kind != EARLY_LATE) {
            // The bits still hold the one received before, which the bang-bang detector asks for.
            filter.takeError(detector.measureAtData(value, level, bits));
        }
        detector.finishBit(level);
        bits.add(value);
        boolean slipped = slips.compare(transmitter.number);
        phases.add(transmitter.phase - HALF_BIT, slipped);
        aligner.take(bits.endsWithSyncWord());
    }

    private static boolean isWithin(int value, int least, int greatest) {
        return value >= least && value <= greatest;
    }

    /** Sends framed bits with a clock of its own. */
    private static final class Transmitter {
        private static final long MULTIPLIER = 1103515245L;
        private static final long INCREMENT = 12345L;
        private static final long MODULUS = 2147483648L;

        int phase = 0;
        int step = NOMINAL_STEP;
        int jitter = 0;
        long randomState = 1;
        int number = 0;
        int value = 1;
        int register = 127;

        void advance() {
            phase += step + drawDeviation();
            if (phase >= WHOLE_BIT) {
                phase -= WHOLE_BIT;
                sendNextBit();
            }
        }

        private int drawDeviation() {
            if (jitter == 0) {
                return 0;
            }
            randomState = (MULTIPLIER * randomState + INCREMENT) % MODULUS;
            int drawn = (int) (randomState / 65536);
            return drawn % (2 * jitter + 1) - jitter;
        }

        private void sendNextBit() {
            number++;
            int position = number % FRAME_LENGTH;
            if (position < SYNC_LENGTH) {
                value = (SYNC_WORD >> (SYNC_LENGTH - 1 - position)) & 1;
            } else {
                value = shiftRegister();
            }
        }

        private int shiftRegister() {
            int lowest = register & 1;
            int second = (register >> 1) & 1;
            register = (register >> 1) | ((lowest ^ second) << 6);
            return lowest;
        }
    }

    /** What the receiver remembers of the line, the latest tick being the lowest bit. */
    private static final class LineMemory {
        int values = 65535;

        void remember(int value) {
            values = ((values << 1) | value) & 65535;
        }

        boolean hasChangedSince(int ticksAgo) {
            return ((values ^ (values >> ticksAgo)) & 1) == 1;
        }

        int findLevel() {
            return 2 * Integer.bitCount(values & 255) - 8;
        }
    }

    /** At which of the latest 256 ticks the line changed. */
    private static final class EdgeLog {
        static final int REMAINDERS = 16;
        private static final int WINDOW = 256;

        int ticks = 0;
        // The window is a multiple of 16, so that a place has the same remainder as its tick's number.
        private final boolean[] changed = new boolean[WINDOW];

        void add(boolean hasChanged) {
            ticks++;
            changed[ticks & (WINDOW - 1)] = hasChanged;
        }

        int sumCosts(int remainder) {
            int sum = 0;
            for (int place = 0; place < WINDOW; place++) {
                if (changed[place]) {
                    sum += 8 - findDistance(remainder, place);
                }
            }
            return sum;
        }

        private static int findDistance(int one, int other) {
            int forward = (one - other) & (REMAINDERS - 1);
            int backward = (other - one) & (REMAINDERS - 1);
            return Math.min(forward, backward);
        }
    }

    /** The oscillator of the receiver, which tells the strobes. */
    private static final class Oscillator {
        int phase = 0;

        int advance(int control) {
            int before = phase;
            phase += NOMINAL_STEP + control;
            if (phase >= WHOLE_BIT) {
                phase -= WHOLE_BIT;
                return DATA_STROBE;
            }
            if (hasPassed(before, THREE_QUARTERS_BIT)) {
                return EARLY_STROBE;
            }
            if (hasPassed(before, HALF_BIT)) {
                return MIDDLE_STROBE;
            }
            return hasPassed(before, QUARTER_BIT) ? LATE_STROBE : NO_STROBE;
        }

        private boolean hasPassed(int before, int mark) {
            return before < mark && phase >= mark;
        }
    }

    /** Collects what the five detectors need between the strobes, and measures by one of them. */
    private static final class PhaseDetector {
        int kind = BANG_BANG;
        int edgeError = 0;
        int product = 0;
        int earlyValue = 0;
        int middleValue = 0;
        int middleLevel = 0;
        int dataLevel = 0;

        void watchLine(LineMemory memory, int phase) {
            if (memory.hasChangedSince(1)) {
                edgeError = (HALF_BIT - phase) / 256;
            }
            if (memory.hasChangedSince(8)) {
                product += isWithin(phase, QUARTER_BIT, THREE_QUARTERS_BIT - 1) ? 1 : -1;
            }
        }

        void keepEarly(int level) {
            earlyValue = Math.abs(level);
        }

        void keepMiddle(int value, int level) {
            middleValue = value;
            middleLevel = level;
        }

        int measureLate(int level) {
            return earlyValue - Math.abs(level);
        }

        int measureAtData(int value, int level, BitLog earlierBits) {
            switch (kind) {
                case HOGGE:
                    return edgeError;
                case MULTIPLYING:
                    return product;
                case GARDNER:
                    return middleLevel * (level - dataLevel);
                default:
                    return measureBangBang(value, earlierBits);
            }
        }

        private int measureBangBang(int value, BitLog earlierBits) {
            if (earlierBits.count == 0) {
                return 0;
            }
            int bitBefore = earlierBits.findBit(1);
            if (value == bitBefore) {
                return 0;
            }
            return middleValue == bitBefore ? -1 : 1;
        }

        void finishBit(int level) {
            edgeError = 0;
            product = 0;
            dataLevel = level;
        }
    }

    /** The loop filter of second order, which steers the oscillator. */
    private static final class LoopFilter {
        private static final int MAX_INTEGRAL = 262144;
        private static final int MAX_CONTROL = 1024;

        int proportionalGain = 8;
        int integralGain = 1;
        int error = 0;
        int integral = 0;
        int control = 0;

        void takeError(int measured) {
            error = measured;
            integral = keepWithin(integral + integralGain * measured, MAX_INTEGRAL);
            control = keepWithin(proportionalGain * measured + Math.floorDiv(integral, 256), MAX_CONTROL);
        }

        private static int keepWithin(int value, int greatest) {
            return Math.max(-greatest, Math.min(greatest, value));
        }
    }

    /** The received bits, the latest one being the lowest bit of latest32. */
    private static final class BitLog {
        private static final int REMEMBERED = 32;

        int count = 0;
        int latest32 = 0;

        void add(int value) {
            count++;
            latest32 = (latest32 << 1) | value;
        }

        boolean remembers(int ago) {
            return isWithin(ago, 1, Math.min(REMEMBERED, count));
        }

        int findBit(int ago) {
            return (latest32 >>> (ago - 1)) & 1;
        }

        boolean endsWithSyncWord() {
            return count >= SYNC_LENGTH && (latest32 & 63) == SYNC_WORD;
        }
    }

    /** Counts what is read twice or skipped. */
    private static final class SlipCounter {
        int repeated = 0;
        int skipped = 0;
        private boolean hasStrobed = false;
        private int numberBefore = 0;

        /** Returns whether a bit was read twice or skipped just at this data strobe. */
        boolean compare(int number) {
            int advance = hasStrobed ? number - numberBefore : 1;
            hasStrobed = true;
            numberBefore = number;
            if (advance == 0) {
                repeated++;
            } else if (advance > 1) {
                skipped += advance - 1;
            }
            return advance != 1;
        }
    }

    /** The phases of the latest 32 data strobes. */
    private static final class PhaseLog {
        private static final int WINDOW = 32;

        int count = 0;
        int latest = 0;
        // How many data strobes in a row, up to the latest one, were near the middle and without a slip.
        private int steadyCount = 0;
        private final int[] window = new int[WINDOW];

        void add(int phase, boolean slipped) {
            window[count & (WINDOW - 1)] = phase;
            count++;
            latest = phase;
            boolean steady = !slipped && isWithin(phase, -QUARTER_BIT, QUARTER_BIT - 1);
            steadyCount = steady ? steadyCount + 1 : 0;
        }

        boolean isSteady() {
            return steadyCount >= WINDOW;
        }

        int sumAbsolutes() {
            int sum = 0;
            for (int place = 0; place < WINDOW; place++) {
                sum += Math.abs(window[place]);
            }
            return sum;
        }
    }

    /** Finds the frames among the received bits. */
    private static final class Aligner {
        private static final int HUNT = 0;
        private static final int VERIFY = 1;
        private static final int SYNC = 2;
        private static final int MATCHES_FOR_SYNC = 2;
        private static final int MISSES_FOR_LOSS = 3;

        int state = HUNT;
        int frames = 0;
        int losses = 0;
        private int position = 0;
        private int matches = 0;
        private int misses = 0;

        void take(boolean syncWordEnds) {
            if (state == HUNT) {
                if (syncWordEnds) {
                    state = VERIFY;
                    position = 0;
                    matches = 0;
                }
                return;
            }
            position++;
            if (position < FRAME_LENGTH) {
                return;
            }
            position = 0;
            if (state == VERIFY) {
                verify(syncWordEnds);
            } else {
                watchSync(syncWordEnds);
            }
        }

        private void verify(boolean matched) {
            if (!matched) {
                state = HUNT;
                return;
            }
            matches++;
            if (matches == MATCHES_FOR_SYNC) {
                state = SYNC;
                misses = 0;
            }
        }

        private void watchSync(boolean matched) {
            if (matched) {
                frames++;
                misses = 0;
                return;
            }
            misses++;
            if (misses == MISSES_FOR_LOSS) {
                state = HUNT;
                losses++;
            }
        }
    }
}
