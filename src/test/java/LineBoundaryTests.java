import java.math.BigInteger;

/**
 * The sentences of the document that name a boundary case of the transmitter, of the line and of
 * bestPhase and cost; each has a test of its own, which begins with its words.
 */
public final class LineBoundaryTests {
    private static final BigInteger MULTIPLIER = BigInteger.valueOf(1103515245);
    private static final BigInteger INCREMENT = BigInteger.valueOf(12345);
    private static final BigInteger MODULUS = BigInteger.valueOf(2147483648L);

    private final Checks checks = new Checks();

    public static void main(String[] args) {
        LineBoundaryTests tests = new LineBoundaryTests();
        tests.longestLife();
        tests.senderWrapsAround();
        tests.leastAndGreatestStep();
        tests.noJitter();
        tests.remainderBy2J1();
        tests.stateRoundedDown();
        tests.stateWrapsAround();
        tests.seedStartsAgain();
        tests.framesOf24();
        tests.registerComesAround();
        tests.aheadOfTheFirstTick();
        tests.onesAheadOfTheFirstTick();
        tests.latest8OfTheLine();
        tests.firstTickOfAll();
        tests.fewerThan256Ticks();
        tests.latest256Ticks();
        tests.tickAtARemainderOf0();
        tests.distanceComesAround();
        tests.lowestOfSeveral();
        tests.checks.finish("LineBoundaryTests");
    }

    /** "An object is used for at most 512 calls after it has been made" */
    private void longestLife() {
        Phaselock x = Setups.unsteered(32768);
        int runs = 460;
        for (int run = 0; run < runs; run++) {
            x.run(800);
        }
        int bits = runs * 800 / 16;
        checks.due("ticks of a long life", x.ticks(), runs * 800);
        checks.due("sent in a long life", x.sent(), bits);
        checks.due("received in a long life", x.received(), bits);
        checks.due("repeated in a long life", x.repeated(), 0);
        checks.due("skipped in a long life", x.skipped(), 0);
        checks.due("locked in a long life", x.isLocked(), true);
        checks.due("wander in a long life", x.wander(), 0);
        // Hunt ends at the sixth bit, and verify 48 bits behind it.
        checks.due("frames in a long life", x.frames(), (bits - 54) / 24);
        for (int ago = 1; ago <= 32; ago++) {
            checks.due("bit(" + ago + ") in a long life", x.bit(ago), Setups.bitAt(bits - ago));
        }
    }

    // ---- the clock of the transmitter

    /** "If T is 65536 or more, it becomes less by 65536, and the next bit is sent." */
    private void senderWrapsAround() {
        dueWrap(-1, 65535, 0);
        dueWrap(0, 0, 1);
        dueWrap(1, 1, 1);
        Phaselock x = atSender(-1);
        x.run(1);
        checks.due("sender a step behind 65535", x.sender(), 4095);
        checks.due("sent a step behind 65535", x.sent(), 1);
    }

    /** A simulator behind 16 ticks, the first of which had an offset. */
    private static Phaselock atSender(int firstOffset) {
        Phaselock x = new Phaselock();
        x.setOffset(firstOffset);
        x.run(1);
        x.setOffset(0);
        x.run(15);
        return x;
    }

    private void dueWrap(int firstOffset, int sender, int sent) {
        Phaselock x = atSender(firstOffset);
        checks.due("sender by a first offset " + firstOffset, x.sender(), sender);
        checks.due("sent by a first offset " + firstOffset, x.sent(), sent);
    }

    /** "T is not less than 0 by that, as steps are great enough" */
    private void leastAndGreatestStep() {
        Phaselock x = new Phaselock();
        x.setOffset(-300);
        x.setJitter(2000, seedBefore(0));
        x.run(1);
        checks.due("sender by the least step", x.sender(), 4096 - 300 - 2000);
        Phaselock y = atSender(-1);
        y.setOffset(300);
        y.setJitter(2000, seedBefore(4000L * 65536));
        y.run(1);
        checks.due("sender by the greatest step", y.sender(), 65535 + 4096 + 300 + 2000 - 65536);
        checks.due("sent by the greatest step", y.sent(), 1);
    }

    // ---- the jitter

    /** The seed by which the random state is the told one in the first tick. */
    private static int seedBefore(long state) {
        BigInteger factor = MULTIPLIER.modInverse(MODULUS);
        return BigInteger.valueOf(state).subtract(INCREMENT).multiply(factor).mod(MODULUS).intValueExact();
    }

    private static int deviation(int jitter, long state) {
        Phaselock x = new Phaselock();
        x.setJitter(jitter, seedBefore(state));
        x.run(1);
        return x.sender() - 4096;
    }

    /** "If the jitter is 0, d is 0" */
    private void noJitter() {
        for (int seed : new int[] {0, 1, 12345, Integer.MAX_VALUE}) {
            Phaselock x = new Phaselock();
            x.setJitter(0, seed);
            for (int tick = 1; tick <= 20; tick++) {
                x.run(1);
                checks.due("sender without jitter", x.sender(), tick * 4096 % 65536);
            }
        }
        checks.due("with the jitter 1 there is some", deviation(1, 0), -1);
        Phaselock y = new Phaselock();
        y.setJitter(2000, 7);
        y.run(3);
        y.setJitter(0, 7);
        int before = y.sender();
        y.run(1);
        checks.due("sender behind its jitter", y.sender(), before + 4096);
    }

    /** "d is the remainder of y by 2 J + 1, less J" */
    private void remainderBy2J1() {
        for (int jitter : new int[] {1, 2, 700, 1999, 2000}) {
            String by = " by the jitter " + jitter;
            checks.due("the least d" + by, deviation(jitter, 0), -jitter);
            checks.due("d of y = J" + by, deviation(jitter, jitter * 65536L), 0);
            checks.due("the greatest d" + by, deviation(jitter, 2 * jitter * 65536L), jitter);
            checks.due("d of y = 2 J + 1" + by, deviation(jitter, (2 * jitter + 1) * 65536L), -jitter);
            checks.due("d of the greatest y" + by, deviation(jitter, 32767 * 65536L), 32767 % (2 * jitter + 1) - jitter);
        }
    }

    /** "with y for x divided by 65536, rounded down" */
    private void stateRoundedDown() {
        checks.due("d of x = 65535", deviation(2000, 65535), -2000);
        checks.due("d of x = 65536", deviation(2000, 65536), -1999);
        checks.due("d of x = 131071", deviation(2000, 131071), -1999);
        checks.due("d of the greatest x", deviation(2000, 2147483647), 32767 % 4001 - 2000);
    }

    /** "the random state x becomes the remainder of 1103515245 x + 12345 by 2147483648" */
    private void stateWrapsAround() {
        for (int seed : new int[] {0, 1, 1073741824, Integer.MAX_VALUE - 1, Integer.MAX_VALUE}) {
            Phaselock x = new Phaselock();
            x.setJitter(2000, seed);
            BigInteger state = BigInteger.valueOf(seed);
            int sender = 0;
            for (int tick = 1; tick <= 100; tick++) {
                state = state.multiply(MULTIPLIER).add(INCREMENT).mod(MODULUS);
                sender = (sender + 4096 + state.intValueExact() / 65536 % 4001 - 2000) % 65536;
                x.run(1);
                checks.due("sender from the seed " + seed + " at the tick " + tick, x.sender(), sender);
            }
        }
    }

    /** "Sets the jitter and the random state": the same seed starts the same row again. */
    private void seedStartsAgain() {
        Phaselock x = new Phaselock();
        x.setJitter(1500, 4711);
        x.run(1);
        int first = x.sender();
        x.setJitter(1500, 4711);
        x.run(1);
        checks.due("the same d from the same seed", x.sender(), 2 * first);
    }

    // ---- the frames on the line

    /** "in frames of 24: the bits at the positions 0 to 5 of a frame are 1, 1, 0, 1, 0, 0" */
    private void framesOf24() {
        for (int frame : new int[] {0, 1, 2, 10, 1000}) {
            Phaselock x = Setups.unsteered(32768);
            Setups.pass(x, 16 * (24 * frame + 7) - 1);
            // The latest bit is the first one behind the sync word.
            checks.due("the bits behind frame " + frame, x.received(), 24 * frame + 7);
            int[] due = {1, 1, 0, 1, 0, 0};
            for (int position = 0; position < 6; position++) {
                checks.due("bit " + position + " of frame " + frame, x.bit(7 - position), due[position]);
            }
            checks.due("bit 6 of frame " + frame, x.bit(1), Setups.bitAt(24 * frame + 6));
            if (frame > 0) {
                checks.due("bit 23 of the frame before", x.bit(8), Setups.bitAt(24 * frame - 1));
            }
        }
    }

    /** "the register is shifted right by one, and its highest bit becomes the exclusive or" (127 bits round) */
    private void registerComesAround() {
        Phaselock x = Setups.unsteered(32768);
        int blocks = 15;
        for (int block = 1; block <= blocks; block++) {
            x.run(512);
            for (int ago = 1; ago <= 32; ago++) {
                int number = 32 * block - ago;
                checks.due("the bit " + number, x.bit(ago), Setups.bitAt(number));
            }
        }
    }

    /** "before the first tick this is the bit 0" */
    private void aheadOfTheFirstTick() {
        Phaselock x = new Phaselock();
        checks.due("the line ahead of the first tick", x.line(), 1);
        checks.due("the bit sent ahead of the first tick", x.sent(), 0);
        x.run(1);
        checks.due("the line in the first tick", x.line(), 1);
        checks.due("the bit sent in the first tick", x.sent(), 0);
    }

    /** "those before the first tick count as 1" */
    private void onesAheadOfTheFirstTick() {
        Phaselock x = new Phaselock();
        checks.due("the level ahead of the first tick", x.level(), 8);
        x.run(1);
        checks.due("the level in the first tick", x.level(), 8);
        for (int tick = 1; tick <= 16; tick++) {
            for (int detector = 1; detector <= 2; detector++) {
                Phaselock y = Setups.unsteered(0, detector);
                Setups.strobeAt(y, tick);
                checks.due("the detector " + detector + " at the tick " + tick, y.error(), 0);
            }
        }
    }

    /** "twice the number of ones among the latest 8 of them, less 8" */
    private void latest8OfTheLine() {
        Phaselock x = new Phaselock();
        for (int tick = 1; tick <= 250; tick++) {
            x.run(1);
            int ones = 0;
            for (int k = 0; k < 8; k++) {
                ones += Setups.lineAt(tick - k);
            }
            checks.due("the level at the tick " + tick, x.level(), 2 * ones - 8);
        }
    }

    // ---- bestPhase and cost

    /** The cost by the document's words, of a simulator without jitter at a tick. */
    private static int costAt(int tick, int step, int o) {
        int sum = 0;
        for (int number = Math.max(1, tick - 255); number <= tick; number++) {
            if (Setups.lineAt(number, step) != Setups.lineAt(number - 1, step)) {
                int r = number % 16;
                sum += 8 - Math.min(Math.floorMod(o - r, 16), Math.floorMod(r - o, 16));
            }
        }
        return sum;
    }

    private static int bestAt(int tick, int step) {
        int best = 0;
        for (int o = 1; o < 16; o++) {
            best = costAt(tick, step, o) < costAt(tick, step, best) ? o : best;
        }
        return best;
    }

    private void dueCosts(Phaselock x, int tick, int step) {
        Setups.pass(x, tick - x.ticks());
        for (int o = 0; o < 16; o++) {
            checks.due("cost(" + o + ") at the tick " + tick + " by the step " + step, x.cost(o), costAt(tick, step, o));
        }
        checks.due("bestPhase at the tick " + tick + " by the step " + step, x.bestPhase(), bestAt(tick, step));
    }

    /** "(in the first tick of all from 1)" */
    private void firstTickOfAll() {
        Phaselock x = new Phaselock();
        x.run(1);
        for (int o = 0; o < 16; o++) {
            checks.due("cost(" + o + ") in the first tick", x.cost(o), 0);
        }
        checks.due("bestPhase in the first tick", x.bestPhase(), 0);
    }

    /** "or for all if fewer have passed" */
    private void fewerThan256Ticks() {
        for (int offset : new int[] {-300, 0, 123, 300}) {
            Phaselock x = new Phaselock();
            int step = x.setOffset(offset);
            for (int tick : new int[] {1, 29, 30, 31, 32, 33, 34, 35, 36, 48, 100, 200, 254, 255}) {
                dueCosts(x, tick, step);
            }
        }
    }

    /** "for the latest 256 ticks" */
    private void latest256Ticks() {
        for (int offset : new int[] {-300, 0, 123, 300}) {
            Phaselock x = new Phaselock();
            int step = x.setOffset(offset);
            for (int tick : new int[] {256, 257, 258, 285, 286, 287, 288, 289, 290, 291, 292, 511, 512, 513, 768, 4000, 4096}) {
                dueCosts(x, tick, step);
            }
        }
        Phaselock y = new Phaselock();
        int firstEdge = Setups.edgeBehind(0);
        y.run(firstEdge + 255);
        int before = y.cost(0);
        y.run(1);
        checks.due("a change 256 ticks ago counts no more", y.cost(0), before - 8);
    }

    /** "its number, counted from 1, has a remainder r by 16" */
    private void tickAtARemainderOf0() {
        Phaselock x = new Phaselock();
        int tick = 0;
        while (tick % 256 != 0 || tick == 0) {
            tick = Setups.edgeBehind(tick);
        }
        Setups.pass(x, tick - 1);
        dueCosts(x, tick - 1, 4096);
        dueCosts(x, tick, 4096);
        dueCosts(x, tick + 1, 4096);
        dueCosts(x, tick + 255, 4096);
        dueCosts(x, tick + 256, 4096);
    }

    /** "the distance is the lesser one of the remainders of o - r and r - o by 16" */
    private void distanceComesAround() {
        Phaselock x = new Phaselock();
        x.run(32);
        int[] due = {8, 7, 6, 5, 4, 3, 2, 1, 0, 1, 2, 3, 4, 5, 6, 7};
        for (int o = 0; o < 16; o++) {
            checks.due("cost(" + o + ") of a change at 32", x.cost(o), due[o]);
        }
        // By the step 4396, the line changes at the tick 30 first, with the remainder 14.
        Phaselock y = new Phaselock();
        y.setOffset(300);
        y.run(30);
        for (int o = 0; o < 16; o++) {
            checks.due("cost(" + o + ") of a change at 30", y.cost(o), due[(o + 2) % 16]);
        }
    }

    /** "The best one is the remainder with the least cost, of several the lowest one." */
    private void lowestOfSeveral() {
        checks.due("bestPhase of 16 costs of 0", new Phaselock().bestPhase(), 0);
        int ties = 0;
        for (int offset = -300; offset <= 300; offset += 60) {
            Phaselock x = new Phaselock();
            int step = x.setOffset(offset);
            for (int tick = 2; tick <= 400; tick += 2) {
                x.run(2);
                int best = bestAt(tick, step);
                checks.due("bestPhase by the offset " + offset + " at the tick " + tick, x.bestPhase(), best);
                for (int o = best + 1; o < 16; o++) {
                    ties += costAt(tick, step, o) == costAt(tick, step, best) ? 1 : 0;
                }
            }
        }
        checks.due("there were several", ties > 100, true);
    }
}
