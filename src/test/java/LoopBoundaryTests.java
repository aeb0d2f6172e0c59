/**
 * The sentences of the document that name a boundary case of the receiver's phase, of its strobes,
 * detectors and loop filter; each has a test of its own, which begins with its words.
 */
public final class LoopBoundaryTests {
    private static final int HOGGE = 1;
    private static final int MULTIPLYING = 2;
    private static final int GARDNER = 3;
    private static final int EARLY_LATE = 4;

    private final Checks checks = new Checks();

    public static void main(String[] args) {
        LoopBoundaryTests tests = new LoopBoundaryTests();
        tests.receiverWrapsAround();
        tests.receiverWrapsAroundByControl();
        tests.noStrobeBySetPhase();
        tests.lateStrobe();
        tests.middleStrobe();
        tests.earlyStrobe();
        tests.dataStrobeAlone();
        tests.edgeErrorRoundedTowards0();
        tests.edgeErrorAtFirst();
        tests.productRange();
        tests.productAtFirst();
        tests.firstReceivedBit();
        tests.middleValueAtFirst();
        tests.levelsAtFirst();
        tests.become0BehindTheStrobe();
        tests.measuresNoneThere();
        tests.errorOf0();
        tests.greatestIntegral();
        tests.leastIntegral();
        tests.quotientRoundedDown();
        tests.greatestControl();
        tests.leastControl();
        tests.controlOfBothParts();
        tests.releaseAtTheEnds();
        tests.checks.finish("LoopBoundaryTests");
    }

    /** Lets the detector 1 measure an error of -127 to 128, at the next change of the line. */
    private static void measure(Phaselock x, int error) {
        int now = x.ticks();
        Setups.pass(x, Setups.edgeBehind(now) - 1 - now);
        x.setPhase(32768 - 256 * error);
        if (x.run(1) == 0) {
            Setups.strobeNow(x);
        }
    }

    /** A simulator with the detector 1, behind errors of 128 or -127 with the gain i of 64. */
    private static Phaselock behindErrors(int error, int count) {
        Phaselock x = new Phaselock();
        x.setDetector(HOGGE);
        x.setGains(0, 64);
        for (int k = 0; k < count; k++) {
            measure(x, error);
        }
        return x;
    }

    private void dueMeasured(String what, Phaselock x, int error, int integral, int control) {
        measure(x, error);
        checks.due(what + ": error", x.error(), error);
        checks.due(what + ": integral", x.integral(), integral);
        checks.due(what + ": control", x.control(), control);
    }

    // ---- the phase of the receiver, and the strobes

    /** "if it is 65536 or more, it becomes less by 65536, and there is a data strobe" */
    private void receiverWrapsAround() {
        int[][] cases = {{61439, 65535, 0}, {61440, 0, 1}, {61441, 1, 1}, {65535, 4095, 1}, {0, 4096, 0}};
        for (int[] one : cases) {
            Phaselock x = Setups.unsteered(one[0]);
            checks.due("data strobes from " + one[0], x.run(1), one[2]);
            checks.due("receiver a tick behind " + one[0], x.receiver(), one[1]);
            checks.due("received a tick behind " + one[0], x.received(), one[2]);
        }
    }

    /** The same, by the greatest and the least control. */
    private void receiverWrapsAroundByControl() {
        int[][] cases = {
            {16, 60415, 65535, 0}, {16, 60416, 0, 1}, {16, 65535, 5119, 1}, {16, 0, 5120, 0},
            {-16, 62463, 65535, 0}, {-16, 62464, 0, 1}, {-16, 65535, 3071, 1}, {-16, 0, 3072, 0},
        };
        for (int[] one : cases) {
            Phaselock x = Setups.unsteered(0, HOGGE);
            x.setGains(64, 0);
            measure(x, one[0]);
            int received = x.received();
            x.setPhase(one[1]);
            String what = " from " + one[1] + " by the control " + x.control();
            checks.due("data strobes" + what, x.run(1), one[3]);
            checks.due("receiver" + what, x.receiver(), one[2]);
            checks.due("received" + what, x.received(), received + one[3]);
        }
    }

    /** "There is no strobe by that." */
    private void noStrobeBySetPhase() {
        Phaselock x = Setups.unsteered(0, EARLY_LATE);
        for (int phase : new int[] {16383, 16384, 32767, 32768, 49151, 49152, 65535, 0}) {
            x.setPhase(phase);
        }
        checks.due("no data strobe by setPhase", x.received(), 0);
        checks.due("no late strobe by setPhase", x.error(), 0);
        x.setPhase(16383);
        x.run(1);
        checks.due("no early strobe by setPhase", x.error(), 0 - 8);
        Phaselock y = Setups.unsteered(0, GARDNER);
        y.setPhase(32767);
        y.setPhase(32768);
        Setups.strobeNow(y);
        checks.due("no middle strobe by setPhase", y.error(), 0);
    }

    /** "If it passes 16384 .. (was less before and is not less now), there is a late .. strobe" */
    private void lateStrobe() {
        int[][] cases = {{12287, 0}, {12288, 1}, {16383, 1}, {16384, 0}, {16385, 0}, {0, 0}, {32767, 0}, {49151, 0}, {65535, 0}};
        for (int[] one : cases) {
            Phaselock x = Setups.unsteered(one[0], EARLY_LATE);
            x.run(1);
            checks.due("late strobe from " + one[0], x.error(), -8 * one[1]);
        }
    }

    /** "If it passes .. 32768 .. there is .. a middle .. strobe" */
    private void middleStrobe() {
        int[][] cases = {{28671, 0}, {28672, 1}, {32767, 1}, {32768, 0}, {32769, 0}, {0, 0}, {16383, 0}, {49151, 0}, {65535, 0}};
        for (int[] one : cases) {
            Phaselock x = Setups.unsteered(one[0], GARDNER);
            x.run(1);
            Setups.strobeNow(x);
            // From 65535 there is a data strobe already in the first tick, and no middle level yet.
            checks.due("middle strobe from " + one[0], x.error(), 8 * 8 * one[1]);
        }
    }

    /** "If it passes .. 49152 .. there is .. an early strobe" */
    private void earlyStrobe() {
        int[][] cases = {{45055, 0}, {45056, 1}, {49151, 1}, {49152, 0}, {49153, 0}, {0, 0}, {16383, 0}, {32767, 0}, {65535, 0}};
        for (int[] one : cases) {
            Phaselock x = Setups.unsteered(one[0], EARLY_LATE);
            x.run(1);
            x.setPhase(16383);
            x.run(1);
            checks.due("early strobe from " + one[0], x.error(), 8 * one[1] - 8);
        }
    }

    /** "(There is at most one strobe in a tick.)": what the others keep stays at a data strobe. */
    private void dataStrobeAlone() {
        Phaselock x = Setups.unsteered(65535, EARLY_LATE);
        x.run(1);
        checks.due("no error at a data strobe", x.error(), 0);
        x.setPhase(16383);
        x.run(1);
        checks.due("no early value at a data strobe", x.error(), 0 - 8);
        Phaselock y = Setups.unsteered(0, GARDNER);
        passAheadOfTheMiddle(y, 30);
        Setups.strobeNow(y);
        passAheadOfTheMiddle(y, 1);
        Setups.strobeNow(y);
        checks.due("no middle level at a data strobe", y.error(), 0);
    }

    /** Lets ticks pass in an unsteered receiver with no strobe but the late one. */
    private static void passAheadOfTheMiddle(Phaselock x, int ticks) {
        int left = ticks;
        while (left > 0) {
            int part = Math.min(7, left);
            x.setPhase(0);
            x.run(part);
            left -= part;
        }
    }

    // ---- the detectors

    /** The error that a detector measures, the line changing first of all at the told phase. */
    private static int measuredAt(int detector, int phase) {
        Phaselock x = Setups.unsteered(0, detector);
        Setups.passQuietly(x, 31);
        x.setPhase(phase);
        if (x.run(1) == 0) {
            Setups.strobeNow(x);
        }
        return x.error();
    }

    /** "the edge error becomes 32768 less R, divided by 256, rounded towards 0" */
    private void edgeErrorRoundedTowards0() {
        int[][] cases = {
            {0, 128}, {1, 127}, {255, 127}, {256, 127}, {257, 126}, {512, 126},
            {32255, 2}, {32256, 2}, {32257, 1}, {32512, 1}, {32513, 0}, {32767, 0}, {32768, 0}, {32769, 0},
            {33023, 0}, {33024, -1}, {33279, -1}, {33280, -2},
            {61440, -112}, {65279, -126}, {65280, -127}, {65281, -127}, {65535, -127},
        };
        for (int[] one : cases) {
            checks.due("edge error at " + one[0], measuredAt(HOGGE, one[0]), one[1]);
        }
    }

    /** "(The edge error is 0 at first.)" */
    private void edgeErrorAtFirst() {
        Phaselock x = Setups.unsteered(65535, HOGGE);
        x.run(1);
        checks.due("edge error at first", x.error(), 0);
    }

    /** "the product grows by 1 if R is 16384 to 49151, and becomes less by 1 otherwise" */
    private void productRange() {
        // Where the data strobe is a tick later, the line differs there once more, R being 65535 then.
        int[][] cases = {
            {0, -2}, {16383, -2}, {16384, 0}, {16385, 0}, {32768, 0}, {49150, 0}, {49151, 0}, {49152, -2},
            {61439, -2}, {61440, -1}, {65535, -1},
        };
        for (int[] one : cases) {
            checks.due("product at " + one[0], measuredAt(MULTIPLYING, one[0]), one[1]);
        }
    }

    /** "(The product is 0 at first.)" */
    private void productAtFirst() {
        Phaselock x = Setups.unsteered(65535, MULTIPLYING);
        x.run(1);
        checks.due("product at first", x.error(), 0);
    }

    /** "0 if this is the first received bit or it is the same as the one received before" */
    private void firstReceivedBit() {
        Phaselock x = Setups.unsteered(16383, EARLY_LATE);
        x.run(1);
        checks.due("an error ahead of the first bit", x.error(), -8);
        x.setDetector(0);
        Setups.strobeNow(x);
        checks.due("bang-bang at a first bit 1", x.error(), 0);
        Setups.strobeNow(x);
        checks.due("bang-bang at a second bit 1", x.error(), 0);
        Phaselock y = Setups.unsteered(0);
        Setups.strobeAt(y, 35);
        checks.due("the first bit", y.bit(1), 0);
        checks.due("bang-bang at a first bit 0", y.error(), 0);
        Setups.strobeNow(y);
        checks.due("bang-bang at a second bit 0", y.error(), 0);
    }

    /** "(The .. middle value .. 0 at first.)" */
    private void middleValueAtFirst() {
        Phaselock x = Setups.unsteered(65535);
        x.run(1);
        passAheadOfTheMiddle(x, 35);
        Setups.strobeNow(x);
        checks.due("the bit before", x.bit(2), 1);
        checks.due("the bit", x.bit(1), 0);
        checks.due("bang-bang with a middle value 0 behind a bit 1", x.error(), 1);
    }

    /** "(The early value, the middle level .. and the level at the data strobe before are 0 at first.)" */
    private void levelsAtFirst() {
        Phaselock x = Setups.unsteered(16383, EARLY_LATE);
        x.run(1);
        checks.due("the early value at first", x.error(), 0 - 8);
        Phaselock y = Setups.unsteered(65535, GARDNER);
        y.run(1);
        checks.due("the middle level at first", y.error(), 0);
        Phaselock z = Setups.unsteered(32767, GARDNER);
        z.run(1);
        Setups.strobeNow(z);
        checks.due("the level at the data strobe before, at first", z.error(), 8 * (8 - 0));
    }

    /** "whatever the detector is, the edge error and the product become 0, and the level is kept" */
    private void become0BehindTheStrobe() {
        for (int detector = 0; detector <= 4; detector++) {
            String what = " behind the detector " + detector;
            checks.due("edge error" + what, secondError(detector, HOGGE), 0);
            // The line differs from the one 8 ticks before in the next tick too.
            checks.due("product" + what, secondError(detector, MULTIPLYING), -1);
            checks.due("level" + what, secondError(detector, GARDNER), 8 * (4 - 6));
        }
    }

    /** The error of a strobe in the tick behind a change of the line, at which there was a strobe as well. */
    private static int secondError(int detector, int secondDetector) {
        Phaselock x = Setups.unsteered(0, detector);
        x.run(32);
        x.setDetector(secondDetector);
        Setups.strobeNow(x);
        return x.error();
    }

    /** "The detector 4, early-late, measures none there." And the others measure none at a late strobe. */
    private void measuresNoneThere() {
        Phaselock x = Setups.unsteered(16383, EARLY_LATE);
        x.setGains(1, 1);
        x.run(1);
        checks.due("integral by the late strobe", x.integral(), -8);
        Setups.strobeNow(x);
        checks.due("a data strobe of the detector 4", x.received(), 1);
        checks.due("error behind a data strobe of the detector 4", x.error(), -8);
        checks.due("integral behind a data strobe of the detector 4", x.integral(), -8);
        for (int detector = 0; detector <= 3; detector++) {
            x.setDetector(detector);
            x.setPhase(16383);
            x.run(1);
            checks.due("error behind a late strobe of the detector " + detector, x.error(), -8);
            checks.due("integral behind a late strobe of the detector " + detector, x.integral(), -8);
        }
    }

    // ---- the loop filter

    /** "Whenever an error is measured, be it 0, it becomes the error" */
    private void errorOf0() {
        Phaselock x = Setups.unsteered(0, HOGGE);
        x.setGains(10, 64);
        dueMeasured("an error of 16", x, 16, 1024, 164);
        Setups.strobeNow(x);
        checks.due("an error of 0", x.error(), 0);
        checks.due("integral behind an error of 0", x.integral(), 1024);
        checks.due("control behind an error of 0", x.control(), 4);
    }

    /** "is kept from .. to 262144" */
    private void greatestIntegral() {
        Phaselock x = behindErrors(128, 31);
        dueMeasured("31 errors of 128, and 127", x, 127, 262080, 1023);
        x.setGains(0, 1);
        dueMeasured("a little below the greatest integral", x, 63, 262143, 1023);
        dueMeasured("the greatest integral", x, 1, 262144, 1024);
        dueMeasured("1 above the greatest integral", x, 1, 262144, 1024);
        dueMeasured("1 less than the greatest integral", x, -1, 262143, 1023);
        dueMeasured("from a little below above the greatest integral", x, 2, 262144, 1024);
        x.setGains(0, 64);
        dueMeasured("far above the greatest integral", x, 128, 262144, 1024);
        dueMeasured("less again at once", x, -1, 262080, 1023);
    }

    /** "is kept from -262144" */
    private void leastIntegral() {
        Phaselock x = behindErrors(-127, 32);
        checks.due("32 errors of -127", x.integral(), -260096);
        x.setGains(0, 23);
        dueMeasured("a little above the least integral", x, -89, -262143, -1024);
        x.setGains(0, 1);
        dueMeasured("the least integral", x, -1, -262144, -1024);
        dueMeasured("1 below the least integral", x, -1, -262144, -1024);
        dueMeasured("1 more than the least integral", x, 1, -262143, -1024);
        dueMeasured("from a little above below the least integral", x, -2, -262144, -1024);
        x.setGains(0, 64);
        dueMeasured("far below the least integral", x, -127, -262144, -1024);
        dueMeasured("more again at once", x, 4, -261888, -1023);
    }

    /** "the quotient of the integral by 256 (this quotient alone is rounded down)" */
    private void quotientRoundedDown() {
        int[][] cases = {
            {1, 1, 1, 0}, {5, 51, 255, 0}, {4, 64, 256, 1}, {7, 73, 511, 1}, {8, 64, 512, 2},
            {1, -1, -1, -1}, {5, -51, -255, -1}, {4, -64, -256, -1}, {3, -87, -261, -2}, {8, -64, -512, -2},
        };
        for (int[] one : cases) {
            Phaselock x = Setups.unsteered(0, HOGGE);
            x.setGains(0, one[0]);
            dueMeasured("the quotient of " + one[2], x, one[1], one[2], one[3]);
        }
        Phaselock y = Setups.unsteered(0, HOGGE);
        y.setGains(0, 4);
        dueMeasured("the quotient of -256", y, -64, -256, -1);
        y.setGains(3, 1);
        dueMeasured("the quotient of -257, and p times the error", y, -1, -257, -3 - 2);
        dueMeasured("the quotient of -252, and p times the error", y, 5, -252, 15 - 1);
        dueMeasured("the quotient of -272, and p times the error", y, -20, -272, -60 - 2);
    }

    private void dueControl(int p, int error, int control) {
        Phaselock x = Setups.unsteered(0, HOGGE);
        x.setGains(p, 0);
        dueMeasured(p + " times " + error, x, error, 0, control);
    }

    /** "but is kept from .. to 1024" */
    private void greatestControl() {
        dueControl(33, 31, 1023);
        dueControl(64, 16, 1024);
        dueControl(41, 25, 1024);
        dueControl(64, 128, 1024);
    }

    /** "but is kept from -1024" */
    private void leastControl() {
        dueControl(33, -31, -1023);
        dueControl(64, -16, -1024);
        dueControl(41, -25, -1024);
        dueControl(64, -127, -1024);
    }

    /** "the control becomes p times the error plus the quotient .. but is kept": the sum is kept, not a part. */
    private void controlOfBothParts() {
        Phaselock x = Setups.unsteered(0, HOGGE);
        x.setGains(64, 64);
        dueMeasured("too much by p times the error", x, 100, 6400, 1024);
        x.setGains(64, 0);
        dueMeasured("just enough less by p times the error", x, -16, 6400, -1024 + 25);
        x.setGains(64, 1);
        dueMeasured("too little by p times the error", x, -127, 6273, -1024);
        Phaselock y = behindErrors(128, 33);
        y.setGains(64, 0);
        dueMeasured("the greatest quotient, and a great part less", y, -32, 262144, -1024);
        dueMeasured("the greatest quotient, and a part less", y, -31, 262144, 1024 - 1984);
        dueMeasured("the greatest quotient, and a part more", y, 1, 262144, 1024);
    }

    /** "Sets the integral and the control to 0." */
    private void releaseAtTheEnds() {
        Phaselock x = behindErrors(128, 33);
        x.release();
        checks.due("integral released from its greatest", x.integral(), 0);
        checks.due("control released from its greatest", x.control(), 0);
        checks.due("the error stays", x.error(), 128);
        dueMeasured("an error behind release", x, -1, -64, -1);
        Phaselock y = new Phaselock();
        y.release();
        checks.due("integral of a new object released", y.integral(), 0);
        checks.due("control of a new object released", y.control(), 0);
    }
}
