import java.util.Random;

/** Long runs of drawn calls, each answer compared with that of the reference model. */
public final class ModelTests {
    private static final int CALLS = 512;
    private static final int[] WRONG_INPUTS = {Integer.MIN_VALUE, Integer.MAX_VALUE, -1, -301, 301, 801, 2001, 65536, 65, 5, 16, 33, 0};

    private final Checks checks = new Checks();
    private final Random random;
    private final boolean calm;
    private final Phaselock real = new Phaselock();
    private final ReferenceModel model = new ReferenceModel();

    private interface Answer {
        long give();
    }

    private ModelTests(long seed, boolean calm) {
        this.random = new Random(seed);
        this.calm = calm;
    }

    public static void main(String[] args) {
        Checks all = new Checks();
        for (int seed = 0; seed < 800; seed++) {
            ModelTests run = new ModelTests(seed, seed % 2 == 0);
            run.callAll();
            all.due("run of calls with seed " + seed + " has failed", run.checks.hasFailed(), false);
        }
        all.finish("ModelTests");
    }

    private void callAll() {
        compare("setDetector", random.nextInt(5), real::setDetector, model::setDetector);
        if (random.nextBoolean()) {
            compare("setOffset", random.nextInt(101) - 50, real::setOffset, model::setOffset);
        }
        for (int call = 2; call < CALLS && !checks.hasFailed(); call++) {
            int drawn = random.nextInt(100);
            if (drawn < 30) {
                compare("run", drawTicks(), real::run, model::run);
            } else if (drawn < (calm ? 32 : 50)) {
                set(random.nextInt(6));
            } else {
                ask(random.nextInt(21));
            }
        }
    }

    private interface Call {
        long with(int argument);
    }

    private void compare(String name, int argument, Call one, Call other) {
        compare(name + "(" + argument + ")", () -> one.with(argument), () -> other.with(argument));
    }

    private void compare(String what, Answer one, Answer other) {
        checks.dueText(what, answerOf(one), answerOf(other));
    }

    private static String answerOf(Answer answer) {
        try {
            return String.valueOf(answer.give());
        } catch (RuntimeException thrown) {
            return thrown.getClass().getSimpleName();
        }
    }

    /** A drawn value from the least one to the greatest one, at times a wrong or an outermost one. */
    private int draw(int least, int greatest) {
        int drawn = random.nextInt(20);
        if (drawn == 0) {
            return WRONG_INPUTS[random.nextInt(WRONG_INPUTS.length)];
        }
        if (drawn == 1) {
            return random.nextBoolean() ? least : greatest;
        }
        return (int) (least + (long) (random.nextDouble() * ((long) greatest - least + 1)));
    }

    private int drawTicks() {
        return random.nextBoolean() ? draw(1, 40) : draw(1, 800);
    }

    private void set(int which) {
        int one = draw(0, 64);
        int other = draw(0, 64);
        switch (which) {
            case 0 -> compare("setOffset", draw(-300, 300), real::setOffset, model::setOffset);
            case 1 -> {
                int jitter = draw(0, 2000);
                int seed = draw(0, Integer.MAX_VALUE);
                compare("setJitter", () -> done(() -> real.setJitter(jitter, seed)), () -> done(() -> model.setJitter(jitter, seed)));
            }
            case 2 -> compare("setDetector", draw(0, 4), real::setDetector, model::setDetector);
            case 3 -> compare("setGains", () -> done(() -> real.setGains(one, other)), () -> done(() -> model.setGains(one, other)));
            case 4 -> compare("setPhase", draw(0, 65535), real::setPhase, model::setPhase);
            default -> compare("release", () -> done(real::release), () -> done(model::release));
        }
    }

    private static long done(Runnable call) {
        call.run();
        return 0;
    }

    private void ask(int which) {
        switch (which) {
            case 0 -> compare("ticks", real::ticks, model::ticks);
            case 1 -> compare("sent", real::sent, model::sent);
            case 2 -> compare("line", real::line, model::line);
            case 3 -> compare("level", real::level, model::level);
            case 4 -> compare("sender", real::sender, model::sender);
            case 5 -> compare("receiver", real::receiver, model::receiver);
            case 6 -> compare("error", real::error, model::error);
            case 7 -> compare("integral", real::integral, model::integral);
            case 8 -> compare("control", real::control, model::control);
            case 9 -> compare("received", real::received, model::received);
            case 10 -> compare("bit", draw(1, 32), real::bit, model::bit);
            case 11 -> compare("phase", real::phase, model::phase);
            case 12 -> compare("repeated", real::repeated, model::repeated);
            case 13 -> compare("skipped", real::skipped, model::skipped);
            case 14 -> compare("isLocked", () -> real.isLocked() ? 1 : 0, () -> model.isLocked() ? 1 : 0);
            case 15 -> compare("wander", real::wander, model::wander);
            case 16 -> compare("alignment", real::alignment, model::alignment);
            case 17 -> compare("frames", real::frames, model::frames);
            case 18 -> compare("losses", real::losses, model::losses);
            case 19 -> compare("bestPhase", real::bestPhase, model::bestPhase);
            default -> compare("cost", draw(0, 15), real::cost, model::cost);
        }
    }
}
