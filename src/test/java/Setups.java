/**
 * Simulators in states that tests start from, and what is known of the line beforehand.
 *
 * Without offset and jitter, bit k is sent at the tick 16 k, so that the line is known for each tick.
 */
final class Setups {
    private static final String SYNC_WORD = "110100";
    private static final int[] BITS = firstBits(30000);

    private Setups() {
    }

    /** A simulator whose receiver isn't steered. */
    static Phaselock unsteered(int phase) {
        Phaselock x = new Phaselock();
        x.setGains(0, 0);
        x.setPhase(phase);
        return x;
    }

    static Phaselock unsteered(int phase, int detector) {
        Phaselock x = unsteered(phase);
        x.setDetector(detector);
        return x;
    }

    static void pass(Phaselock x, int ticks) {
        int left = ticks;
        while (left > 0) {
            int part = Math.min(800, left);
            x.run(part);
            left -= part;
        }
    }

    /** Lets ticks pass in an unsteered receiver without a data strobe. */
    static void passQuietly(Phaselock x, int ticks) {
        int left = ticks;
        while (left > 0) {
            int part = Math.min(15, left);
            x.setPhase(0);
            x.run(part);
            left -= part;
        }
    }

    /** Lets one tick pass, with a data strobe in it. */
    static void strobeNow(Phaselock x) {
        x.setPhase(65535);
        x.run(1);
    }

    /** Lets ticks pass without a data strobe up to a tick, which gets one. */
    static void strobeAt(Phaselock x, int tick) {
        passQuietly(x, tick - 1 - x.ticks());
        strobeNow(x);
    }

    /** Reads a bit twice, a tick behind a data strobe of a receiver at the phase 0. */
    static void readTwice(Phaselock x) {
        strobeNow(x);
        x.setPhase(4096);
        x.run(15);
    }

    /** Skips a bit, as the strobe that is due in 16 ticks doesn't come. */
    static void skipOne(Phaselock x) {
        x.run(15);
        x.setPhase(0);
        x.run(1);
        x.setPhase(0);
        x.run(16);
    }

    /** The bit of a number. */
    static int bitAt(int number) {
        return BITS[number];
    }

    /** The value of the line in a tick, or in one before the first, by a step without jitter. */
    static int lineAt(int tick, int step) {
        return tick < 1 ? 1 : bitAt((int) ((long) tick * step / 65536));
    }

    static int lineAt(int tick) {
        return lineAt(tick, 4096);
    }

    /** The next tick behind the told one at which the line changes, without offset and jitter. */
    static int edgeBehind(int tick) {
        int edge = tick + 1;
        while (lineAt(edge) == lineAt(edge - 1)) {
            edge++;
        }
        return edge;
    }

    /** What a register of 7 bits gives is the exclusive or of what it gave 7 and 6 bits before. */
    private static int[] firstBits(int count) {
        int[] bits = new int[count];
        int[] given = new int[count];
        int givenCount = 0;
        for (int number = 0; number < count; number++) {
            int position = number % 24;
            if (position < 6) {
                bits[number] = SYNC_WORD.charAt(position) - '0';
            } else {
                int k = givenCount++;
                given[k] = k < 7 ? 1 : given[k - 7] ^ given[k - 6];
                bits[number] = given[k];
            }
        }
        return bits;
    }
}
