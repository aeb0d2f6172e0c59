/**
 * Refused calls: each argument that is just out of range, or far out of it, is answered by the
 * exception that the document names, and "a method that throws an exception changes nothing". The
 * outermost arguments that are in range are taken.
 */
public final class RefusalTests {
    private static final int LEAST = Integer.MIN_VALUE;
    private static final int GREATEST = Integer.MAX_VALUE;

    private final Checks checks = new Checks();

    private interface Call {
        void on(Phaselock x);
    }

    private record Refusal(String name, Class<? extends RuntimeException> exception, Call call) {
    }

    public static void main(String[] args) {
        RefusalTests tests = new RefusalTests();
        tests.settingsOutOfRange();
        tests.twoArgumentsOutOfRange();
        tests.runOutOfRange();
        tests.costOutOfRange();
        tests.bitsThatThereAreNot();
        tests.phaseWithoutStrobe();
        tests.argumentsAtTheirEnds();
        tests.checks.finish("RefusalTests");
    }

    // ---- the states in which calls are refused

    private static final int STATES = 6;

    /** New, or with settings that aren't the first ones, and the loop at work with one of the detectors. */
    private static Phaselock inState(int state) {
        Phaselock x = new Phaselock();
        if (state > 0) {
            x.setOffset(37);
            x.setJitter(700, 99);
            x.setDetector(state - 1);
            x.setGains(5, 3);
            x.setPhase(12345);
            x.run(777);
        }
        return x;
    }

    /** Answers and what comes of them later are those of a twin that wasn't called wrongly. */
    private void dueRefusal(Refusal refusal, int state) {
        String what = refusal.name + " in the state " + state;
        Phaselock x = inState(state);
        Phaselock twin = inState(state);
        checks.dueThrow(what, refusal.exception, () -> refusal.call.on(x));
        checks.dueText(what + ": behind it", Snapshot.of(x), Snapshot.of(twin));
        x.run(100);
        twin.run(100);
        checks.dueText(what + ": 100 ticks behind it", Snapshot.of(x), Snapshot.of(twin));
        checks.due(what + ": detector", x.setDetector(0), twin.setDetector(0));
        x.run(500);
        twin.run(500);
        checks.dueText(what + ": 600 ticks behind it", Snapshot.of(x), Snapshot.of(twin));
    }

    private void dueBadArgument(String name, Call call) {
        for (int state = 0; state < STATES; state++) {
            dueRefusal(new Refusal(name, IllegalArgumentException.class, call), state);
        }
    }

    // ---- what is refused

    /** "Throws IllegalArgumentException if .. is out of range", setOffset to setPhase. */
    private void settingsOutOfRange() {
        for (int wrong : new int[] {-301, 301, LEAST, GREATEST}) {
            dueBadArgument("setOffset(" + wrong + ")", x -> x.setOffset(wrong));
        }
        for (int wrong : new int[] {-1, 2001, LEAST, GREATEST}) {
            dueBadArgument("setJitter(" + wrong + ", 5)", x -> x.setJitter(wrong, 5));
        }
        for (int wrong : new int[] {-1, LEAST}) {
            dueBadArgument("setJitter(5, " + wrong + ")", x -> x.setJitter(5, wrong));
        }
        for (int wrong : new int[] {-1, 5, LEAST, GREATEST}) {
            dueBadArgument("setDetector(" + wrong + ")", x -> x.setDetector(wrong));
        }
        for (int wrong : new int[] {-1, 65, LEAST, GREATEST}) {
            dueBadArgument("setGains(" + wrong + ", 50)", x -> x.setGains(wrong, 50));
            dueBadArgument("setGains(50, " + wrong + ")", x -> x.setGains(50, wrong));
        }
        for (int wrong : new int[] {-1, 65536, LEAST, GREATEST}) {
            dueBadArgument("setPhase(" + wrong + ")", x -> x.setPhase(wrong));
        }
    }

    /** "If several exceptions apply, the one that is documented first is thrown." Here they are the same. */
    private void twoArgumentsOutOfRange() {
        dueBadArgument("setJitter(-1, -1)", x -> x.setJitter(-1, -1));
        dueBadArgument("setJitter(2001, -1)", x -> x.setJitter(2001, -1));
        dueBadArgument("setGains(-1, 65)", x -> x.setGains(-1, 65));
        dueBadArgument("setGains(65, -1)", x -> x.setGains(65, -1));
    }

    /** "ticks: 1 to 800" */
    private void runOutOfRange() {
        for (int wrong : new int[] {0, -1, 801, LEAST, GREATEST}) {
            dueBadArgument("run(" + wrong + ")", x -> x.run(wrong));
        }
    }

    /** "remainder: 0 to 15" */
    private void costOutOfRange() {
        for (int wrong : new int[] {-1, 16, LEAST, GREATEST}) {
            dueBadArgument("cost(" + wrong + ")", x -> x.cost(wrong));
        }
    }

    /** "1 for the latest one, up to 32, but not more than were received" */
    private void bitsThatThereAreNot() {
        for (int wrong : new int[] {0, -1, 33, 64, LEAST, GREATEST}) {
            for (int state = 0; state < STATES; state++) {
                dueRefusal(new Refusal("bit(" + wrong + ")", IndexOutOfBoundsException.class, x -> x.bit(wrong)), state);
            }
        }
        dueRefusal(new Refusal("bit(1) of none", IndexOutOfBoundsException.class, x -> x.bit(1)), 0);
    }

    /** "Throws IllegalStateException if there was none" */
    private void phaseWithoutStrobe() {
        dueRefusal(new Refusal("phase()", IllegalStateException.class, Phaselock::phase), 0);
    }

    // ---- what isn't refused

    private void dueTaken(String name, Call call) {
        for (int state = 0; state < STATES; state++) {
            Phaselock x = inState(state);
            String got = "nothing";
            try {
                call.on(x);
            } catch (RuntimeException thrown) {
                got = thrown.getClass().getSimpleName();
            }
            checks.dueText(name + " in the state " + state + " throws", got, "nothing");
        }
    }

    private void argumentsAtTheirEnds() {
        for (int end : new int[] {-300, 300}) {
            dueTaken("setOffset(" + end + ")", x -> checks.due("step", x.setOffset(end), 4096 + end));
        }
        for (int jitter : new int[] {0, 2000}) {
            for (int seed : new int[] {0, GREATEST}) {
                dueTaken("setJitter(" + jitter + ", " + seed + ")", x -> x.setJitter(jitter, seed));
            }
        }
        for (int end : new int[] {0, 4}) {
            dueTaken("setDetector(" + end + ")", x -> x.setDetector(end));
        }
        for (int p : new int[] {0, 64}) {
            for (int i : new int[] {0, 64}) {
                dueTaken("setGains(" + p + ", " + i + ")", x -> x.setGains(p, i));
            }
        }
        for (int end : new int[] {0, 65535}) {
            dueTaken("setPhase(" + end + ")", x -> x.setPhase(end));
        }
        for (int end : new int[] {1, 800}) {
            dueTaken("run(" + end + ")", x -> x.run(end));
        }
        for (int end : new int[] {0, 15}) {
            dueTaken("cost(" + end + ")", x -> x.cost(end));
        }
    }
}
