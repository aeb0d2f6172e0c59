/**
 * Each promise of the document by itself, with answers that were worked out by hand from its words:
 * ordinary inputs, the edges that it names, and wrong inputs.
 *
 * Without offset, jitter and gains, bit k is sent at the tick 16 k, and a receiver that was set to
 * the phase 0 or 32768 at first has its data strobes at the ticks 16, 32, .. or 8, 24, ..
 */
public final class PromiseTests {
    private static final Class<IllegalArgumentException> BAD_ARGUMENT = IllegalArgumentException.class;
    private static final Class<IndexOutOfBoundsException> BAD_INDEX = IndexOutOfBoundsException.class;
    private static final Class<IllegalStateException> BAD_STATE = IllegalStateException.class;

    /** The first three frames, the register's bits worked out by hand for the first two of them. */
    private static final String FIRST_BITS =
            "110100" + "111111100000010000" + "110100" + "011000010100011110" + "110100";

    private final Checks checks = new Checks();

    public static void main(String[] args) {
        PromiseTests tests = new PromiseTests();
        tests.newObject();
        tests.newObjectsDefaults();
        tests.offset();
        tests.jitter();
        tests.jitterOfLongRun();
        tests.detectorSetting();
        tests.gains();
        tests.gainsOfBothSigns();
        tests.receiverPhase();
        tests.release();
        tests.run();
        tests.ticks();
        tests.sentAndSender();
        tests.line();
        tests.level();
        tests.receiver();
        tests.bangBang();
        tests.hogge();
        tests.multiplying();
        tests.gardner();
        tests.earlyLate();
        tests.resetBehindEarlyLate();
        tests.receivedBits();
        tests.phase();
        tests.repeated();
        tests.skipped();
        tests.locked();
        tests.lockedAtPhaseEdges();
        tests.lockedAndSlips();
        tests.wander();
        tests.verifyAndSync();
        tests.verifyFails();
        tests.framesAndLosses();
        tests.missesAreForgotten();
        tests.costs();
        tests.costsOfLatestTicks();
        tests.bestPhaseOfSeveral();
        tests.checks.finish("PromiseTests");
    }

    // ---- promise 1

    private void newObject() {
        Phaselock x = new Phaselock();
        checks.due("new: ticks", x.ticks(), 0);
        checks.due("new: sent", x.sent(), 0);
        checks.due("new: line", x.line(), 1);
        checks.due("new: level", x.level(), 8);
        checks.due("new: sender", x.sender(), 0);
        checks.due("new: receiver", x.receiver(), 0);
        checks.due("new: error", x.error(), 0);
        checks.due("new: integral", x.integral(), 0);
        checks.due("new: control", x.control(), 0);
        checks.due("new: received", x.received(), 0);
        checks.dueThrow("new: bit(1)", BAD_INDEX, () -> x.bit(1));
        checks.dueThrow("new: phase", BAD_STATE, x::phase);
        checks.due("new: repeated", x.repeated(), 0);
        checks.due("new: skipped", x.skipped(), 0);
        checks.due("new: isLocked", x.isLocked(), false);
        checks.due("new: wander", x.wander(), 0);
        checks.due("new: alignment", x.alignment(), 0);
        checks.due("new: frames", x.frames(), 0);
        checks.due("new: losses", x.losses(), 0);
        checks.due("new: bestPhase", x.bestPhase(), 0);
        for (int remainder = 0; remainder < 16; remainder++) {
            checks.due("new: cost", x.cost(remainder), 0);
        }
    }

    private void newObjectsDefaults() {
        Phaselock x = new Phaselock();
        checks.due("the detector at first", x.setDetector(0), 0);
        x.run(1);
        checks.due("the step at first, without jitter", x.sender(), 4096);
        x.run(31);
        // The line falls from 1 to 0 at the tick 32, behind the middle strobe at the tick 24.
        checks.due("the error at the first edge", x.error(), -1);
        checks.due("the gain i at first", x.integral(), -1);
        checks.due("the gain p at first, the quotient rounded down", x.control(), -9);
    }

    // ---- promises 2 to 7

    private void offset() {
        Phaselock x = new Phaselock();
        checks.due("setOffset(-300)", x.setOffset(-300), 3796);
        checks.due("setOffset(300)", x.setOffset(300), 4396);
        for (int wrong : new int[] {-301, 301, Integer.MIN_VALUE, Integer.MAX_VALUE}) {
            checks.dueThrow("setOffset(" + wrong + ")", BAD_ARGUMENT, () -> x.setOffset(wrong));
        }
        x.run(1);
        checks.due("the phase by the offset 300", x.sender(), 4396);
        checks.due("setOffset(-7)", x.setOffset(-7), 4089);
        x.run(2);
        checks.due("the phase by the offset -7", x.sender(), 4396 + 2 * 4089);
        checks.due("setOffset(0)", x.setOffset(0), 4096);
    }

    private void jitter() {
        checks.due("sender with jitter 2000 from seed 1", senderAfterOneTick(2000, 1), 2930);
        checks.due("sender with jitter 2000 from seed 0", senderAfterOneTick(2000, 0), 2096);
        checks.due("sender with the greatest seed", senderAfterOneTick(2000, Integer.MAX_VALUE), 6022);
        checks.due("sender with jitter 1 from seed 1", senderAfterOneTick(1, 1), 4096 + 16838 % 3 - 1);
        checks.due("sender with jitter 0", senderAfterOneTick(0, 1), 4096);
        Phaselock x = new Phaselock();
        x.setJitter(2000, 1);
        for (int wrong : new int[] {-1, 2001, Integer.MIN_VALUE, Integer.MAX_VALUE}) {
            checks.dueThrow("setJitter(" + wrong + ", 0)", BAD_ARGUMENT, () -> x.setJitter(wrong, 0));
        }
        checks.dueThrow("setJitter(0, -1)", BAD_ARGUMENT, () -> x.setJitter(0, -1));
        checks.dueThrow("setJitter(1, MIN)", BAD_ARGUMENT, () -> x.setJitter(1, Integer.MIN_VALUE));
        x.run(1);
        checks.due("sender behind wrong settings", x.sender(), 2930);
    }

    private static int senderAfterOneTick(int jitter, int seed) {
        Phaselock x = new Phaselock();
        x.setJitter(jitter, seed);
        x.run(1);
        return x.sender();
    }

    private void jitterOfLongRun() {
        Phaselock x = new Phaselock();
        x.setJitter(300, 99);
        long state = 99;
        long total = 0;
        for (int tick = 1; tick <= 100; tick++) {
            state = (1103515245L * state + 12345) % 2147483648L;
            total += 4096 + state / 65536 % 601 - 300;
            x.run(1);
            checks.due("sender with jitter at the tick " + tick, x.sender(), total % 65536);
        }
        checks.due("sent with jitter", x.sent(), total / 65536);
        x.setJitter(0, 5);
        x.run(3);
        checks.due("sender without jitter again", x.sender(), (total + 3 * 4096) % 65536);
    }

    private void detectorSetting() {
        Phaselock x = new Phaselock();
        x.run(32);
        for (int detector = 1; detector <= 4; detector++) {
            checks.due("setDetector", x.setDetector(detector), detector - 1);
        }
        for (int wrong : new int[] {-1, 5, Integer.MIN_VALUE, Integer.MAX_VALUE}) {
            checks.dueThrow("setDetector(" + wrong + ")", BAD_ARGUMENT, () -> x.setDetector(wrong));
        }
        checks.due("the error stays", x.error(), -1);
        checks.due("the integral stays", x.integral(), -1);
        checks.due("the control stays", x.control(), -9);
        checks.due("setDetector behind wrong ones", x.setDetector(0), 4);
    }

    private void gains() {
        Phaselock x = new Phaselock();
        x.setGains(64, 64);
        int[][] wrongs = {{-1, 0}, {65, 0}, {0, -1}, {0, 65}, {Integer.MIN_VALUE, 1}, {1, Integer.MAX_VALUE}};
        for (int[] wrong : wrongs) {
            checks.dueThrow("setGains(" + wrong[0] + ", " + wrong[1] + ")", BAD_ARGUMENT, () -> x.setGains(wrong[0], wrong[1]));
        }
        x.run(32);
        checks.due("integral with gains 64", x.integral(), -64);
        checks.due("control with gains 64", x.control(), -65);
        x.setGains(0, 0);
        checks.due("the control stays with new gains", x.control(), -65);
        checks.due("the integral stays with new gains", x.integral(), -64);
    }

    private void gainsOfBothSigns() {
        Phaselock x = new Phaselock();
        x.setPhase(32768);
        x.setGains(3, 50);
        x.run(40);
        checks.due("error when late", x.error(), 1);
        checks.due("integral when late", x.integral(), 50);
        checks.due("control when late", x.control(), 3);
        Phaselock y = Setups.unsteered(32768, 1);
        y.setGains(1, 20);
        y.run(40);
        checks.due("integral of the error 16", y.integral(), 320);
        checks.due("control of the error 16", y.control(), 17);
    }

    private void receiverPhase() {
        Phaselock x = Setups.unsteered(0);
        checks.due("setPhase(65535)", x.setPhase(65535), 0);
        checks.due("setPhase(0)", x.setPhase(0), 65535);
        for (int wrong : new int[] {-1, 65536, Integer.MIN_VALUE, Integer.MAX_VALUE}) {
            checks.dueThrow("setPhase(" + wrong + ")", BAD_ARGUMENT, () -> x.setPhase(wrong));
        }
        checks.due("receiver behind wrong ones", x.receiver(), 0);
        checks.due("setPhase(100)", x.setPhase(100), 0);
        checks.due("receiver behind setPhase", x.receiver(), 100);
        checks.due("no strobe by setPhase", x.received(), 0);
        x.run(2);
        checks.due("setPhase behind ticks", x.setPhase(7), 100 + 2 * 4096);
        checks.due("sender stays", x.sender(), 2 * 4096);
        // Over 16384 by setPhase, there is no late strobe, which would measure 0 - 8.
        Phaselock y = Setups.unsteered(0, 4);
        y.setPhase(16384);
        y.run(4);
        checks.due("no late strobe by setPhase", y.error(), 0);
    }

    private void release() {
        Phaselock x = new Phaselock();
        x.run(32);
        x.release();
        checks.due("control behind release", x.control(), 0);
        checks.due("integral behind release", x.integral(), 0);
        checks.due("error behind release", x.error(), -1);
        checks.due("receiver behind release", x.receiver(), 0);
        x.run(1);
        checks.due("receiver behind release and a tick", x.receiver(), 4096);
    }

    // ---- promises 8 to 14

    private void run() {
        Phaselock x = Setups.unsteered(0);
        for (int wrong : new int[] {0, -1, 801, Integer.MIN_VALUE, Integer.MAX_VALUE}) {
            checks.dueThrow("run(" + wrong + ")", BAD_ARGUMENT, () -> x.run(wrong));
        }
        checks.due("ticks behind wrong runs", x.ticks(), 0);
        checks.due("run(15)", x.run(15), 0);
        checks.due("run(1) with a strobe", x.run(1), 1);
        checks.due("run(1) without one", x.run(1), 0);
        checks.due("run(800)", x.run(800), 50);
        checks.due("received in all", x.received(), 51);
    }

    private void ticks() {
        Phaselock x = new Phaselock();
        x.run(1);
        checks.due("ticks behind run(1)", x.ticks(), 1);
        x.run(800);
        checks.due("ticks behind run(800)", x.ticks(), 801);
    }

    private void sentAndSender() {
        Phaselock x = new Phaselock();
        x.run(15);
        checks.due("sent at the tick 15", x.sent(), 0);
        checks.due("sender at the tick 15", x.sender(), 61440);
        x.run(1);
        checks.due("sent at the tick 16", x.sent(), 1);
        checks.due("sender at the tick 16", x.sender(), 0);
        x.run(784);
        checks.due("sent at the tick 800", x.sent(), 50);
        Phaselock y = new Phaselock();
        y.setOffset(300);
        y.run(800);
        checks.due("sent with the offset 300", y.sent(), 4396 * 800 / 65536);
        checks.due("sender with the offset 300", y.sender(), 4396 * 800 % 65536);
        y.setOffset(-300);
        y.run(800);
        checks.due("sent with the offset -300", y.sent(), (4396 + 3796) * 800 / 65536);
        checks.due("sender with the offset -300", y.sender(), 0);
    }

    private void line() {
        Phaselock x = new Phaselock();
        for (int number = 0; number < FIRST_BITS.length(); number++) {
            checks.due("line at the bit " + number, x.line(), FIRST_BITS.charAt(number) - '0');
            x.run(15);
            checks.due("line at the end of the bit " + number, x.line(), FIRST_BITS.charAt(number) - '0');
            x.run(1);
        }
    }

    private void level() {
        Phaselock x = new Phaselock();
        x.run(31);
        checks.due("level at the tick 31", x.level(), 8);
        for (int zeros = 1; zeros <= 8; zeros++) {
            x.run(1);
            checks.due("level with zeros: " + zeros, x.level(), 8 - 2 * zeros);
        }
        x.run(8);
        checks.due("level at the tick 47", x.level(), -8);
        x.run(1);
        checks.due("level at the tick 48", x.level(), -6);
    }

    private void receiver() {
        Phaselock x = Setups.unsteered(61439);
        x.run(1);
        checks.due("receiver a little below a bit", x.receiver(), 65535);
        checks.due("no data strobe below a bit", x.received(), 0);
        x.run(1);
        checks.due("receiver behind a data strobe", x.receiver(), 4095);
        checks.due("a data strobe", x.received(), 1);
        x.setPhase(61440);
        checks.due("a data strobe just at a bit", x.run(1), 1);
        checks.due("receiver just at a bit", x.receiver(), 0);
        Phaselock y = new Phaselock();
        y.run(33);
        checks.due("receiver with a control", y.receiver(), 4096 - 9);
    }

    // ---- promises 15 to 17 with the detectors

    private void bangBang() {
        Phaselock x = Setups.unsteered(0);
        x.run(16);
        checks.due("bang-bang at the first bit", x.error(), 0);
        x.run(16);
        checks.due("bang-bang behind the edge 1 to 0", x.error(), -1);
        x.run(16);
        checks.due("bang-bang behind the edge 0 to 1", x.error(), -1);
        x.run(32);
        checks.due("bang-bang without an edge", x.error(), 0);
        Phaselock y = Setups.unsteered(32768);
        y.run(39);
        checks.due("bang-bang at the second bit", y.error(), 0);
        y.run(1);
        checks.due("bang-bang ahead of the edge 1 to 0", y.error(), 1);
        y.run(16);
        checks.due("bang-bang ahead of the edge 0 to 1", y.error(), 1);
    }

    private void hogge() {
        Phaselock x = Setups.unsteered(1, 1);
        x.run(31);
        checks.due("Hogge ahead of an edge", x.error(), 0);
        x.run(1);
        checks.due("Hogge, rounded towards 0", x.error(), -112);
        x.run(48);
        checks.due("Hogge without an edge", x.error(), 0);
        Phaselock y = Setups.unsteered(32768 - 255, 1);
        y.run(39);
        checks.due("Hogge waits for the data strobe", y.error(), 0);
        // 4096 and 255 more, so that the quotient is a little below 17.
        y.run(2);
        checks.due("Hogge, positive", y.error(), 16);
        y.run(48);
        checks.due("Hogge without an edge, again", y.error(), 0);
        Phaselock z = Setups.unsteered(0, 1);
        z.run(31);
        z.setPhase(0);
        z.run(15);
        z.setPhase(0);
        z.run(1);
        z.setPhase(8192);
        z.run(1);
        z.setPhase(65535);
        z.run(1);
        checks.due("Hogge by the later one of two edges", z.error(), 96);
    }

    private void multiplying() {
        Phaselock x = Setups.unsteered(32768, 2);
        x.run(39);
        checks.due("product ahead of the data strobe", x.error(), 0);
        x.run(1);
        checks.due("product of 5 within and 3 outside", x.error(), 2);
        x.run(16);
        checks.due("product of the next edge", x.error(), 2);
        x.run(32);
        checks.due("product without an edge", x.error(), 0);
        Phaselock y = Setups.unsteered(0, 2);
        y.run(32);
        checks.due("product of 1 outside", y.error(), -1);
        y.run(16);
        checks.due("product of 3 within and 5 outside", y.error(), -2);
        // One phase less: then 16384 isn't reached at the tick 37, but 49151 is at the tick 41.
        Phaselock z = Setups.unsteered(32767, 2);
        z.run(41);
        checks.due("product with the edges of the range", z.error(), 4);
        // Once more one less than the range, 16383 at the tick 37: 2 within, and 6 outside.
        Phaselock w = Setups.unsteered(65535, 2);
        w.run(49);
        checks.due("product with 16383 outside", w.error(), -4);
    }

    private void gardner() {
        Phaselock x = Setups.unsteered(32768, 3);
        x.run(8);
        // No middle strobe was before, so that the middle level is 0.
        checks.due("Gardner at the first bit", x.error(), 0);
        x.run(31);
        checks.due("Gardner ahead of the data strobe", x.error(), 0);
        x.run(1);
        checks.due("Gardner at the edge 1 to 0", x.error(), 6 * (-8 - 8));
        x.run(16);
        checks.due("Gardner at the edge 0 to 1", x.error(), -6 * (8 + 8));
        Phaselock y = Setups.unsteered(0, 3);
        y.run(16);
        checks.due("Gardner with the level before 0 at first", y.error(), 8 * (8 - 0));
        y.run(16);
        checks.due("Gardner with the level 6 behind 8", y.error(), 8 * (6 - 8));
    }

    private void earlyLate() {
        Phaselock x = Setups.unsteered(0, 4);
        x.run(3);
        checks.due("early-late ahead of the late strobe", x.error(), 0);
        x.run(1);
        checks.due("early-late with the early value 0 at first", x.error(), 0 - 8);
        x.run(15);
        checks.due("early-late measures none at data strobes", x.error(), -8);
        x.run(1);
        checks.due("early-late without an edge", x.error(), 0);
        x.run(16);
        checks.due("early-late with the level -2", x.error(), 8 - 2);
        x.run(16);
        checks.due("early-late with the level 2", x.error(), 8 - 2);
        Phaselock y = Setups.unsteered(0, 1);
        y.run(12);
        y.setDetector(4);
        y.run(8);
        checks.due("the early value is kept for any detector", y.error(), 0);
        Phaselock z = Setups.unsteered(0, 3);
        z.run(4);
        checks.due("other detectors measure none at a late strobe", z.error(), 0);
        Phaselock w = Setups.unsteered(36864, 4);
        w.run(42);
        checks.due("early-late ahead of a level of zeros", w.error(), 0);
        w.run(1);
        checks.due("early-late with the level 0 at the early strobe", w.error(), 0 - 8);
    }

    private void resetBehindEarlyLate() {
        Phaselock x = Setups.unsteered(32768, 4);
        x.run(40);
        x.setDetector(2);
        x.run(16);
        checks.due("the product becomes 0 whatever the detector is", x.error(), 2);
        Phaselock y = Setups.unsteered(0, 4);
        y.run(32);
        y.setDetector(1);
        y.run(8);
        y.setPhase(65535);
        y.run(1);
        checks.due("the edge error becomes 0 whatever the detector is", y.error(), 0);
        Phaselock z = Setups.unsteered(0, 4);
        z.run(16);
        z.setDetector(3);
        z.run(16);
        checks.due("the level is kept whatever the detector is", z.error(), 8 * (6 - 8));
    }

    // ---- promises 18 to 24

    private void receivedBits() {
        Phaselock x = Setups.unsteered(32768);
        x.run(8);
        checks.due("received at the first strobe", x.received(), 1);
        checks.due("the first bit", x.bit(1), 1);
        checks.dueThrow("bit(2) of 1", BAD_INDEX, () -> x.bit(2));
        Setups.pass(x, 47 * 16);
        checks.due("received at the strobe 48", x.received(), 48);
        for (int ago = 1; ago <= 32; ago++) {
            checks.due("bit(" + ago + ")", x.bit(ago), FIRST_BITS.charAt(48 - ago) - '0');
        }
        for (int wrong : new int[] {0, -1, 33, 40, Integer.MIN_VALUE, Integer.MAX_VALUE}) {
            checks.dueThrow("bit(" + wrong + ")", BAD_INDEX, () -> x.bit(wrong));
        }
        Phaselock y = Setups.unsteered(32768);
        Setups.pass(y, 8 + 30 * 16);
        checks.due("bit(31) of 31", y.bit(31), 1);
        checks.dueThrow("bit(32) of 31", BAD_INDEX, () -> y.bit(32));
        y.run(16);
        checks.due("bit(32) of 32", y.bit(32), 1);
    }

    private void phase() {
        Phaselock x = Setups.unsteered(0);
        x.run(15);
        checks.dueThrow("phase ahead of a strobe", BAD_STATE, x::phase);
        x.run(1);
        checks.due("the least phase", x.phase(), -32768);
        x.run(15);
        checks.due("phase between strobes", x.phase(), -32768);
        x.setOffset(-1);
        x.setPhase(65535);
        x.run(1);
        checks.due("the greatest phase", x.phase(), 32767);
        Phaselock y = Setups.unsteered(32768);
        y.run(8);
        checks.due("phase in the middle", y.phase(), 0);
    }

    private void repeated() {
        Phaselock x = Setups.unsteered(65535);
        x.run(1);
        checks.due("repeated at the first strobe", x.repeated(), 0);
        x.setPhase(65535);
        x.run(1);
        checks.due("repeated at a second strobe", x.repeated(), 1);
        x.setPhase(65535);
        x.run(1);
        checks.due("repeated at a third strobe", x.repeated(), 2);
        checks.due("skipped beside repeated", x.skipped(), 0);
        checks.due("received with repeated", x.received(), 3);
        Phaselock y = Setups.unsteered(32768);
        Setups.pass(y, 8 + 10 * 16);
        checks.due("repeated in step", y.repeated(), 0);
        Setups.readTwice(y);
        checks.due("repeated out of step", y.repeated(), 1);
        checks.due("bit read twice", y.bit(1), y.bit(2));
        y.run(160);
        checks.due("repeated in step again", y.repeated(), 1);
    }

    private void skipped() {
        Phaselock x = Setups.unsteered(0);
        for (int part = 0; part < 5; part++) {
            x.run(15);
            x.setPhase(0);
        }
        x.run(16);
        checks.due("received first", x.received(), 1);
        checks.due("skipped at the first strobe", x.skipped(), 0);
        checks.due("skipped: number of the first strobe", x.sent(), 5);
        x.run(16);
        checks.due("skipped in step", x.skipped(), 0);
        Setups.skipOne(x);
        checks.due("skipped one", x.skipped(), 1);
        x.run(15);
        x.setPhase(0);
        x.run(15);
        x.setPhase(0);
        x.run(16);
        checks.due("skipped two more", x.skipped(), 3);
        checks.due("repeated beside skipped", x.repeated(), 0);
    }

    private void locked() {
        Phaselock x = Setups.unsteered(32768);
        Setups.pass(x, 503);
        checks.due("31 data strobes", x.received(), 31);
        checks.due("locked with 31 data strobes", x.isLocked(), false);
        x.run(1);
        checks.due("locked with 32 data strobes", x.isLocked(), true);
        x.run(800);
        checks.due("locked still", x.isLocked(), true);
        Phaselock y = Setups.unsteered(0);
        y.run(800);
        checks.due("locked far from the middle", y.isLocked(), false);
    }

    /** Whether it is locked with strobes at a tick of each bit, the sender's phase being one less if told. */
    private static Phaselock lockedAt(int tickOfBit, boolean oneLess) {
        Phaselock x = Setups.unsteered(65536 - 4096 * tickOfBit);
        if (oneLess) {
            x.setOffset(-1);
        }
        x.run(1);
        x.setOffset(0);
        Setups.pass(x, 800);
        return x;
    }

    private void lockedAtPhaseEdges() {
        checks.due("the phase -16384", lockedAt(4, false).phase(), -16384);
        checks.due("locked at the phase -16384", lockedAt(4, false).isLocked(), true);
        checks.due("the phase -16385", lockedAt(4, true).phase(), -16385);
        checks.due("locked at the phase -16385", lockedAt(4, true).isLocked(), false);
        checks.due("the phase 16383", lockedAt(12, true).phase(), 16383);
        checks.due("locked at the phase 16383", lockedAt(12, true).isLocked(), true);
        checks.due("the phase 16384", lockedAt(12, false).phase(), 16384);
        checks.due("locked at the phase 16384", lockedAt(12, false).isLocked(), false);
    }

    private void lockedAndSlips() {
        Phaselock x = Setups.unsteered(32768);
        Setups.pass(x, 8 + 40 * 16);
        checks.due("locked ahead of slips", x.isLocked(), true);
        x.setPhase(65535);
        x.run(1);
        x.setPhase(4096);
        checks.due("the phase of a bit read twice", x.phase(), 4096);
        checks.due("locked at a bit read twice", x.isLocked(), false);
        Setups.pass(x, 15 + 30 * 16);
        checks.due("locked 31 strobes behind", x.isLocked(), false);
        x.run(16);
        checks.due("locked 32 strobes behind", x.isLocked(), true);
        Setups.skipOne(x);
        checks.due("the phase behind a skipped bit", x.phase(), 0);
        checks.due("locked at a skipped bit", x.isLocked(), false);
        Setups.pass(x, 31 * 16);
        checks.due("locked 31 strobes behind it", x.isLocked(), false);
        x.run(16);
        checks.due("locked 32 strobes behind it", x.isLocked(), true);
    }

    private void wander() {
        Phaselock x = Setups.unsteered(0);
        for (int strobes = 1; strobes <= 40; strobes++) {
            x.run(16);
            checks.due("wander of strobes: " + strobes, x.wander(), 32768 * Math.min(32, strobes));
        }
        x.setPhase(4096);
        x.run(15);
        checks.due("the phase 28672", x.phase(), 28672);
        checks.due("wander with the phase 28672", x.wander(), 31 * 32768 + 28672);
    }

    // ---- promises 25 to 27

    private void verifyAndSync() {
        Phaselock x = Setups.unsteered(32768);
        Setups.pass(x, 8 + 4 * 16);
        checks.due("hunt with 5 bits", x.alignment(), 0);
        x.run(16);
        checks.due("verify with 6 bits", x.alignment(), 1);
        Setups.pass(x, 47 * 16);
        checks.due("verify with one match", x.alignment(), 1);
        x.run(16);
        checks.due("sync with two matches", x.alignment(), 2);
        checks.due("no frame by the matches", x.frames(), 0);
        Setups.pass(x, 23 * 16);
        checks.due("no frame ahead of its end", x.frames(), 0);
        x.run(16);
        checks.due("a frame", x.frames(), 1);
        Setups.pass(x, 24 * 16 * 5);
        checks.due("six frames", x.frames(), 6);
        checks.due("no losses", x.losses(), 0);
        checks.due("sync still", x.alignment(), 2);
    }

    private void verifyFails() {
        Phaselock x = Setups.unsteered(32768);
        Setups.pass(x, 8 + 5 * 16);
        checks.due("verify", x.alignment(), 1);
        // 25 bits are received then up to the end of the next sync word, the look being at the 24th.
        Setups.readTwice(x);
        Setups.pass(x, 21 * 16);
        checks.due("verify ahead of the miss", x.alignment(), 1);
        x.run(16);
        checks.due("hunt behind the miss", x.alignment(), 0);
        x.run(16);
        checks.due("verify at the sync word behind the miss", x.alignment(), 1);
        Setups.pass(x, 24 * 16);
        Setups.readTwice(x);
        Setups.pass(x, 22 * 16);
        checks.due("hunt behind a match and a miss", x.alignment(), 0);
        x.run(16);
        checks.due("verify once more", x.alignment(), 1);
        Setups.pass(x, 24 * 16);
        checks.due("the match ahead of the miss is forgotten", x.alignment(), 1);
        Setups.pass(x, 24 * 16);
        checks.due("sync at last", x.alignment(), 2);
        checks.due("no loss in verify", x.losses(), 0);
    }

    private static Phaselock synced() {
        Phaselock x = Setups.unsteered(32768);
        Setups.pass(x, 8 + 53 * 16);
        return x;
    }

    private void framesAndLosses() {
        Phaselock x = synced();
        checks.due("in sync", x.alignment(), 2);
        Setups.skipOne(x);
        // A strobe later than the sync word: 23 bits were received since the one at which it would end.
        Setups.pass(x, 23 * 16);
        checks.due("sync with one miss", x.alignment(), 2);
        Setups.pass(x, 24 * 16);
        checks.due("sync with two misses", x.alignment(), 2);
        checks.due("no loss with two misses", x.losses(), 0);
        Setups.pass(x, 23 * 16);
        checks.due("sync just ahead of the third miss", x.alignment(), 2);
        x.run(16);
        checks.due("a loss with three misses", x.losses(), 1);
        checks.due("hunt with three misses", x.alignment(), 0);
        checks.due("no frame with misses", x.frames(), 0);
        // The bits 136 to 141 are the sync word by chance, 15 bits on; 24 bits behind that it isn't.
        Setups.pass(x, 14 * 16);
        checks.due("hunt ahead of a chance sync word", x.alignment(), 0);
        x.run(16);
        checks.due("verify at a chance sync word", x.alignment(), 1);
        Setups.pass(x, 24 * 16);
        checks.due("hunt behind a chance sync word", x.alignment(), 0);
        Setups.pass(x, 8 * 16);
        checks.due("verify behind a loss", x.alignment(), 1);
        Setups.pass(x, 48 * 16);
        checks.due("sync behind a loss", x.alignment(), 2);
        Setups.skipOne(x);
        Setups.pass(x, 70 * 16);
        checks.due("no second loss with two misses", x.losses(), 1);
        x.run(16);
        checks.due("a second loss", x.losses(), 2);
        checks.due("hunt behind a second loss", x.alignment(), 0);
        checks.due("no frame with misses still", x.frames(), 0);
    }

    private void missesAreForgotten() {
        Phaselock x = synced();
        for (int round = 1; round <= 3; round++) {
            Setups.readTwice(x);
            Setups.pass(x, 46 * 16);
            Setups.skipOne(x);
            Setups.pass(x, 24 * 16 + 16);
            checks.due("sync behind two misses", x.alignment(), 2);
            checks.due("frames behind two misses", x.frames(), round);
            checks.due("losses behind two misses", x.losses(), 0);
        }
    }

    // ---- promises 28 and 29

    private void costs() {
        Phaselock x = new Phaselock();
        x.run(31);
        checks.due("bestPhase without an edge", x.bestPhase(), 0);
        x.run(1);
        for (int remainder = 0; remainder < 16; remainder++) {
            checks.due("cost(" + remainder + ") of one edge", x.cost(remainder), 8 - Math.min(remainder, 16 - remainder));
        }
        checks.due("bestPhase of one edge", x.bestPhase(), 8);
        for (int wrong : new int[] {-1, 16, Integer.MIN_VALUE, Integer.MAX_VALUE}) {
            checks.dueThrow("cost(" + wrong + ")", BAD_ARGUMENT, () -> x.cost(wrong));
        }
    }

    private void costsOfLatestTicks() {
        Phaselock x = new Phaselock();
        x.run(287);
        checks.due("edges at 32, 48, 64, 96, 208", x.cost(0), 40);
        x.run(1);
        checks.due("the edge at 32 is gone", x.cost(0), 32);
        x.run(15);
        checks.due("the edge at 48 is there", x.cost(0), 32);
        x.run(1);
        checks.due("the edge at 304 instead of the one at 48", x.cost(0), 32);
        x.run(16);
        checks.due("the edge at 320 instead of the one at 64", x.cost(0), 32);
        x.run(31);
        checks.due("the edge at 96 is there", x.cost(0), 32);
        x.run(1);
        checks.due("the edge at 96 is gone", x.cost(0), 24);
        checks.due("the far remainder", x.cost(8), 0);
    }

    private void bestPhaseOfSeveral() {
        Phaselock x = new Phaselock();
        x.setOffset(-300);
        x.run(52);
        // Edges at the ticks 35 and 52, with the remainders 3 and 4.
        checks.due("cost(11)", x.cost(11), 1);
        checks.due("cost(12)", x.cost(12), 1);
        checks.due("cost(3)", x.cost(3), 15);
        checks.due("cost(15)", x.cost(15), 8 - 4 + 8 - 5);
        checks.due("bestPhase of two", x.bestPhase(), 11);
    }
}
