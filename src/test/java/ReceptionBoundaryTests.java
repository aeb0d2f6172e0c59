/**
 * The sentences of the document that name a boundary case of what is received, of slips, lock and
 * frames; each has a test of its own, which begins with its words.
 */
public final class ReceptionBoundaryTests {
    private static final Class<IndexOutOfBoundsException> BAD_INDEX = IndexOutOfBoundsException.class;
    private static final Class<IllegalStateException> BAD_STATE = IllegalStateException.class;
    private static final String SYNC_WORD = "110100";

    private final Checks checks = new Checks();

    public static void main(String[] args) {
        ReceptionBoundaryTests tests = new ReceptionBoundaryTests();
        tests.bitsReceivedInARun();
        tests.notMoreThanWereReceived();
        tests.phaseFromEndToEnd();
        tests.noPhaseAheadOfAStrobe();
        tests.slipsByNumbers();
        tests.firstStrobeOfAll();
        tests.sameValueIsNoSlip();
        tests.atLeast32Strobes();
        tests.phasesThatLock();
        tests.eachOfTheLatest32();
        tests.noSlipAmongTheLatest32();
        tests.slipBetweenStrobesInRange();
        tests.wanderOfTheLatest32();
        tests.atLeast6Bits();
        tests.every24thBit();
        tests.twoMatches();
        tests.matchesBeginAt0();
        tests.hasToBeTheSyncWord();
        tests.framesInSyncAlone();
        tests.threeMisses();
        tests.missesBecome0();
        tests.missesBeginAt0();
        tests.checks.finish("ReceptionBoundaryTests");
    }

    // ---- bits and phases

    /** "Returns how many bits are received in them." */
    private void bitsReceivedInARun() {
        Phaselock x = Setups.unsteered(0);
        checks.due("run(1) without a strobe", x.run(1), 0);
        checks.due("run(14) without a strobe", x.run(14), 0);
        checks.due("run(1) with a strobe", x.run(1), 1);
        checks.due("run(15) without a strobe", x.run(15), 0);
        checks.due("run(17) with a strobe at either end", x.run(17), 2);
        checks.due("run(15) behind a strobe", x.run(15), 0);
        checks.due("run(1) with a strobe again", x.run(1), 1);
        checks.due("run(800) with strobes", x.run(800), 50);
        checks.due("received in all", x.received(), 54);
    }

    /** "1 for the latest one, up to 32, but not more than were received" */
    private void notMoreThanWereReceived() {
        Phaselock x = Setups.unsteered(32768);
        x.run(7);
        checks.dueThrow("bit(1) of none", BAD_INDEX, () -> x.bit(1));
        checks.dueThrow("bit(0) of none", BAD_INDEX, () -> x.bit(0));
        for (int received = 1; received <= 70; received++) {
            x.run(received == 1 ? 1 : 16);
            int most = Math.min(32, received);
            checks.due("bit(1) of " + received, x.bit(1), Setups.bitAt(received - 1));
            checks.due("bit(" + most + ") of " + received, x.bit(most), Setups.bitAt(received - most));
            checks.dueThrow("bit(" + (most + 1) + ") of " + received, BAD_INDEX, () -> x.bit(most + 1));
            checks.dueThrow("bit(0) of " + received, BAD_INDEX, () -> x.bit(0));
        }
    }

    /** "Returns the phase, -32768 to 32767." */
    private void phaseFromEndToEnd() {
        Phaselock x = new Phaselock();
        x.setGains(0, 0);
        Setups.strobeAt(x, 16);
        checks.due("sender at the least phase", x.sender(), 0);
        checks.due("the least phase", x.phase(), -32768);
        Phaselock y = new Phaselock();
        y.setGains(0, 0);
        y.setOffset(-1);
        y.run(1);
        y.setOffset(0);
        Setups.strobeAt(y, 16);
        checks.due("sender at the greatest phase", y.sender(), 65535);
        checks.due("the greatest phase", y.phase(), 32767);
        y.run(3);
        checks.due("the phase stays up to the next strobe", y.phase(), 32767);
        Phaselock z = Setups.unsteered(32768);
        z.run(8);
        checks.due("the phase in the middle", z.phase(), 0);
    }

    /** "Throws IllegalStateException if there was none" */
    private void noPhaseAheadOfAStrobe() {
        Phaselock x = Setups.unsteered(0);
        checks.dueThrow("phase at the tick 0", BAD_STATE, x::phase);
        x.run(15);
        checks.dueThrow("phase at the tick 15", BAD_STATE, x::phase);
        x.run(1);
        checks.due("phase at the tick 16", x.phase(), -32768);
    }

    // ---- slips

    /** "the same one (by its number) .. it is read twice; .. greater by n, with n above 1, then n - 1 bits" */
    private void slipsByNumbers() {
        for (int detector = 0; detector <= 4; detector++) {
            for (int n = 0; n <= 12; n++) {
                dueSlip(detector, n);
            }
        }
        Phaselock y = Setups.unsteered(0);
        for (int strobe = 1; strobe <= 6; strobe++) {
            Setups.strobeAt(y, 16 * 5 + strobe);
            checks.due("repeated at the strobe " + strobe, y.repeated(), strobe - 1);
        }
        Setups.strobeAt(y, 16 * 7);
        Setups.strobeAt(y, 16 * 10);
        checks.due("skipped in all", y.skipped(), 1 + 2);
        checks.due("repeated in all", y.repeated(), 5);
    }

    private void dueSlip(int detector, int n) {
        String what = " with n = " + n + " by the detector " + detector;
        Phaselock x = Setups.unsteered(0, detector);
        Setups.strobeAt(x, 16 * 3 + 2);
        checks.due("the number at the strobe before" + what, x.sent(), 3);
        Setups.strobeAt(x, 16 * (3 + n) + 3);
        checks.due("the number at the strobe" + what, x.sent(), 3 + n);
        checks.due("repeated" + what, x.repeated(), n == 0 ? 1 : 0);
        checks.due("skipped" + what, x.skipped(), Math.max(0, n - 1));
        checks.due("received" + what, x.received(), 2);
    }

    /** "as at the data strobe before": at the first one there is none before. */
    private void firstStrobeOfAll() {
        for (int number = 0; number <= 5; number++) {
            Phaselock x = Setups.unsteered(0);
            Setups.strobeAt(x, 16 * number + 1);
            checks.due("repeated at the first strobe, of the bit " + number, x.repeated(), 0);
            checks.due("skipped at the first strobe, of the bit " + number, x.skipped(), 0);
            Setups.strobeAt(x, 16 * number + 17);
            checks.due("repeated at the second strobe, of the bit " + (number + 1), x.repeated(), 0);
            checks.due("skipped at the second strobe, of the bit " + (number + 1), x.skipped(), 0);
        }
    }

    /** "the same one (by its number)": not by its value. */
    private void sameValueIsNoSlip() {
        Phaselock x = Setups.unsteered(0);
        Setups.strobeAt(x, 15);
        Setups.strobeAt(x, 16);
        checks.due("the bits 0 and 1 have the same value", x.bit(1), x.bit(2));
        checks.due("repeated at the same value", x.repeated(), 0);
    }

    // ---- lock and wander

    /** "if there have been at least 32 data strobes" */
    private void atLeast32Strobes() {
        Phaselock x = Setups.unsteered(32768);
        checks.due("locked at the tick 0", x.isLocked(), false);
        for (int strobes = 1; strobes <= 40; strobes++) {
            x.run(strobes == 1 ? 8 : 16);
            checks.due("locked with strobes: " + strobes, x.isLocked(), strobes >= 32);
        }
        Phaselock y = Setups.unsteered(0);
        Setups.strobeAt(y, 16 * 5 + 8);
        y.setPhase(0);
        Setups.pass(y, 30 * 16);
        checks.due("locked with 31 strobes, the first one at the bit 5", y.isLocked(), false);
        y.run(16);
        checks.due("locked with 32 strobes, the first one at the bit 5", y.isLocked(), true);
    }

    /** Locked in the middle of 41 bits, then a strobe at another tick of a bit. */
    private static Phaselock behindAnOddStrobe(int tickOfBit, boolean senderOneLess) {
        Phaselock x = Setups.unsteered(32768);
        if (senderOneLess) {
            x.setOffset(-1);
            x.run(1);
            x.setOffset(0);
        }
        Setups.pass(x, 16 * 40 + 8 - x.ticks());
        Setups.strobeAt(x, 16 * 41 + tickOfBit);
        return x;
    }

    private void dueOddStrobe(int tickOfBit, boolean senderOneLess, int phase) {
        boolean inRange = phase >= -16384 && phase <= 16383;
        Phaselock x = behindAnOddStrobe(tickOfBit, senderOneLess);
        checks.due("the odd phase", x.phase(), phase);
        checks.due("received up to the odd phase", x.received(), 42);
        checks.due("locked just at the phase " + phase, x.isLocked(), inRange);
        Setups.strobeAt(x, 16 * 42 + 8);
        x.setPhase(0);
        Setups.pass(x, 16 * 30);
        checks.due("received behind the odd phase", x.received(), 42 + 31);
        checks.due("locked 31 strobes behind the phase " + phase, x.isLocked(), inRange);
        x.run(16);
        checks.due("locked 32 strobes behind the phase " + phase, x.isLocked(), true);
        checks.due("no slip by the odd phase", x.repeated() + x.skipped(), 0);
    }

    /** "for each of the latest 32 the phase is from -16384 to 16383" */
    private void phasesThatLock() {
        dueOddStrobe(4, true, -16385);
        dueOddStrobe(4, false, -16384);
        dueOddStrobe(12, true, 16383);
        dueOddStrobe(12, false, 16384);
    }

    /** "for each of the latest 32": all of them, at an end of the range. */
    private void eachOfTheLatest32() {
        int[][] cases = {{4, 0, 1}, {4, -1, 0}, {12, -1, 1}, {12, 0, 0}};
        for (int[] one : cases) {
            Phaselock x = Setups.unsteered(65536 - 4096 * one[0]);
            x.setOffset(one[1]);
            x.run(1);
            x.setOffset(0);
            Setups.pass(x, 16 * 32);
            checks.due("the phase of each", x.phase(), 4096 * one[0] + one[1] - 32768);
            checks.due("received", x.received(), 32);
            checks.due("locked with the phase " + x.phase(), x.isLocked(), one[2] == 1);
        }
    }

    /** "and nothing was read twice or skipped just at it" */
    private void noSlipAmongTheLatest32() {
        for (boolean twice : new boolean[] {true, false}) {
            String what = twice ? "a bit read twice" : "a bit skipped";
            Phaselock x = Setups.unsteered(32768);
            Setups.pass(x, 16 * 40 + 8);
            checks.due("locked ahead of " + what, x.isLocked(), true);
            Setups.strobeAt(x, twice ? 16 * 40 + 10 : 16 * 42 + 8);
            x.setPhase(twice ? 8192 : 0);
            checks.due("slips by " + what, twice ? x.repeated() : x.skipped(), 1);
            checks.due("the phase of " + what, x.phase(), twice ? 8192 : 0);
            checks.due("locked at " + what, x.isLocked(), false);
            Setups.pass(x, 16 * ((twice ? 40 : 42) + 31) + 8 - x.ticks());
            checks.due("received 31 strobes behind " + what, x.received(), 42 + 31);
            checks.due("locked 31 strobes behind " + what, x.isLocked(), false);
            x.run(16);
            checks.due("locked 32 strobes behind " + what, x.isLocked(), true);
        }
    }

    /** A slip whose phases are in range is seen by the number alone. */
    private void slipBetweenStrobesInRange() {
        Phaselock x = Setups.unsteered(32768);
        Setups.pass(x, 16 * 40 + 8);
        x.setPhase(0);
        x.run(15);
        x.setPhase(0);
        x.run(1);
        x.setPhase(0);
        x.run(16);
        checks.due("skipped", x.skipped(), 1);
        checks.due("the phase behind it", x.phase(), 0);
        checks.due("wander of phases 0", x.wander(), 0);
        checks.due("locked behind it", x.isLocked(), false);
    }

    /** "of the latest data strobes, as many as there were, but at most 32" */
    private void wanderOfTheLatest32() {
        Phaselock x = Setups.unsteered(0);
        checks.due("wander of no strobe", x.wander(), 0);
        x.setOffset(41);
        x.setJitter(900, 17);
        int[] phases = new int[80];
        for (int strobes = 1; strobes <= 80; strobes++) {
            x.run(16);
            phases[strobes - 1] = x.phase();
            int sum = 0;
            for (int k = Math.max(0, strobes - 32); k < strobes; k++) {
                sum += Math.abs(phases[k]);
            }
            checks.due("wander of strobes: " + strobes, x.wander(), sum);
        }
        Phaselock y = Setups.unsteered(0);
        Setups.pass(y, 16 * 50);
        checks.due("the greatest wander", y.wander(), 32 * 32768);
    }

    // ---- frames

    /** Lets a receiver receive bits of choice, by strobes in ticks at which the line has their values. */
    private static final class Feeder {
        final Phaselock x = Setups.unsteered(0);
        private int tick = 0;

        void receive(String bits) {
            for (char bit : bits.toCharArray()) {
                int next = tick + 1;
                while (Setups.lineAt(next) != bit - '0') {
                    next++;
                }
                Setups.passQuietly(x, next - 1 - tick);
                Setups.strobeNow(x);
                tick = next;
            }
        }

        /** Bits as they come, where nobody looks at them. */
        void receiveAny(int count) {
            x.setPhase(0);
            Setups.pass(x, 16 * count);
            tick += 16 * count;
        }

        void match() {
            receiveAny(18);
            receive(SYNC_WORD);
        }

        /** The last one of 24 bits is not the last one of a sync word. */
        void miss() {
            receiveAny(23);
            receive("1");
        }

        void reachSync() {
            receive(SYNC_WORD);
            match();
            match();
        }
    }

    private void dueState(String what, Feeder feeder, int alignment, int frames, int losses) {
        checks.due(what + ": alignment", feeder.x.alignment(), alignment);
        checks.due(what + ": frames", feeder.x.frames(), frames);
        checks.due(what + ": losses", feeder.x.losses(), losses);
    }

    /** "In hunt, if at least 6 bits were received, and the latest 6 are the sync word" */
    private void atLeast6Bits() {
        for (int count = 1; count <= 5; count++) {
            Feeder end = new Feeder();
            end.receive(SYNC_WORD.substring(6 - count));
            dueState("the last bits of a sync word: " + count, end, 0, 0, 0);
            Feeder begin = new Feeder();
            begin.receive(SYNC_WORD.substring(0, count));
            dueState("the first bits of a sync word: " + count, begin, 0, 0, 0);
        }
        Feeder six = new Feeder();
        six.receive(SYNC_WORD);
        dueState("6 bits", six, 1, 0, 0);
        Feeder seven = new Feeder();
        seven.receive("0" + SYNC_WORD);
        dueState("7 bits", seven, 1, 0, 0);
        Feeder behind = new Feeder();
        behind.receive("10100" + SYNC_WORD);
        dueState("6 bits behind 5", behind, 1, 0, 0);
    }

    /** "looks at every 24th received bit, counted from the one at which it left hunt" */
    private void every24thBit() {
        Feeder early = new Feeder();
        early.receive(SYNC_WORD);
        early.receiveAny(17);
        early.receive(SYNC_WORD);
        dueState("a sync word at the 23rd bit", early, 1, 0, 0);
        early.receive("0");
        dueState("no sync word at the 24th bit", early, 0, 0, 0);
        Feeder late = new Feeder();
        late.receive(SYNC_WORD);
        late.receiveAny(18);
        late.receive("111010");
        dueState("none at the 24th bit either", late, 0, 0, 0);
        late.receive("0");
        dueState("a sync word at the 25th bit, seen in hunt", late, 1, 0, 0);
        Feeder between = new Feeder();
        between.receive(SYNC_WORD);
        between.receive(SYNC_WORD + SYNC_WORD + SYNC_WORD);
        dueState("sync words at the 6th, 12th and 18th bit", between, 1, 0, 0);
        between.receive(SYNC_WORD);
        dueState("a sync word at the 24th bit", between, 1, 0, 0);
        between.receive(SYNC_WORD + SYNC_WORD + SYNC_WORD);
        dueState("sync words at the 30th, 36th and 42nd bit", between, 1, 0, 0);
        between.receive(SYNC_WORD);
        dueState("a sync word at the 48th bit", between, 2, 0, 0);
        between.receive(SYNC_WORD + SYNC_WORD + SYNC_WORD);
        dueState("sync words between looks in sync", between, 2, 0, 0);
        between.receive(SYNC_WORD);
        dueState("a sync word at the 72nd bit", between, 2, 1, 0);
    }

    /** "with 2 matches the state becomes 2 (sync)" */
    private void twoMatches() {
        Feeder feeder = new Feeder();
        feeder.receive(SYNC_WORD);
        dueState("no match", feeder, 1, 0, 0);
        feeder.match();
        dueState("one match", feeder, 1, 0, 0);
        feeder.receiveAny(18);
        feeder.receive("11010");
        dueState("one bit ahead of the second match", feeder, 1, 0, 0);
        feeder.receive("0");
        dueState("two matches", feeder, 2, 0, 0);
    }

    /** "its state becomes 1 (verify), with 0 matches" */
    private void matchesBeginAt0() {
        Feeder feeder = new Feeder();
        feeder.receive(SYNC_WORD);
        feeder.match();
        feeder.miss();
        dueState("a miss behind a match", feeder, 0, 0, 0);
        feeder.receive(SYNC_WORD);
        dueState("verify again", feeder, 1, 0, 0);
        feeder.match();
        dueState("one match again", feeder, 1, 0, 0);
        feeder.match();
        dueState("two matches again", feeder, 2, 0, 0);
    }

    /** "whether the latest 6 bits are the sync word then": with one bit wrong, whichever, they aren't. */
    private void hasToBeTheSyncWord() {
        for (int position = 0; position < 6; position++) {
            StringBuilder word = new StringBuilder(SYNC_WORD);
            word.setCharAt(position, word.charAt(position) == '0' ? '1' : '0');
            Feeder hunting = new Feeder();
            hunting.receive(word.toString());
            dueState("hunt behind " + word, hunting, 0, 0, 0);
            Feeder verifying = new Feeder();
            verifying.receive(SYNC_WORD);
            verifying.receiveAny(18);
            verifying.receive(word.toString());
            dueState("verify behind " + word, verifying, 0, 0, 0);
            Feeder synced = new Feeder();
            synced.reachSync();
            synced.receiveAny(18);
            synced.receive(word.toString());
            dueState("sync behind " + word, synced, 2, 0, 0);
        }
    }

    /** "In sync, if they are, a frame is counted": the matches in verify are none. */
    private void framesInSyncAlone() {
        Feeder feeder = new Feeder();
        feeder.reachSync();
        dueState("sync just reached", feeder, 2, 0, 0);
        for (int frames = 1; frames <= 4; frames++) {
            feeder.match();
            dueState("frames: " + frames, feeder, 2, frames, 0);
        }
        feeder.miss();
        dueState("a miss is no frame", feeder, 2, 4, 0);
    }

    /** "with 3 misses the state becomes hunt, and a loss is counted" */
    private void threeMisses() {
        Feeder feeder = new Feeder();
        feeder.reachSync();
        feeder.miss();
        dueState("one miss", feeder, 2, 0, 0);
        feeder.miss();
        dueState("two misses", feeder, 2, 0, 0);
        feeder.receiveAny(23);
        dueState("one bit ahead of the third miss", feeder, 2, 0, 0);
        feeder.receive("1");
        dueState("three misses", feeder, 0, 0, 1);
        feeder.receive(SYNC_WORD);
        dueState("verify behind a loss", feeder, 1, 0, 1);
        feeder.miss();
        dueState("a miss in verify is no loss", feeder, 0, 0, 1);
    }

    /** "a frame is counted and there are 0 misses" */
    private void missesBecome0() {
        Feeder feeder = new Feeder();
        feeder.reachSync();
        feeder.miss();
        feeder.miss();
        feeder.match();
        dueState("a match behind two misses", feeder, 2, 1, 0);
        feeder.miss();
        feeder.miss();
        dueState("two misses behind a match", feeder, 2, 1, 0);
        feeder.miss();
        dueState("three misses behind a match", feeder, 0, 1, 1);
    }

    /** "the state becomes 2 (sync), with 0 misses" */
    private void missesBeginAt0() {
        Feeder feeder = new Feeder();
        feeder.reachSync();
        feeder.miss();
        feeder.miss();
        feeder.miss();
        dueState("a loss", feeder, 0, 0, 1);
        feeder.reachSync();
        dueState("sync again", feeder, 2, 0, 1);
        feeder.miss();
        feeder.miss();
        dueState("two misses again", feeder, 2, 0, 1);
        feeder.miss();
        dueState("a second loss", feeder, 0, 0, 2);
    }
}
