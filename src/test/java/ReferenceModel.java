import java.util.ArrayList;
import java.util.List;

/**
 * The document once more, in another form than Phaselock: it keeps the whole history in lists and
 * finds each answer from them anew.
 */
final class ReferenceModel {
    private static final String SYNC = "110100";

    /** What the answers to data strobes need of each of them. */
    private record Strobe(int phase, int number) {
    }

    private final List<Integer> sentBits = new ArrayList<>();
    private final List<Integer> lines = new ArrayList<>();
    private final List<Strobe> strobes = new ArrayList<>();
    private final StringBuilder receivedBits = new StringBuilder();
    private String register = "1111111";

    private long senderTotal = 0;
    private int step = 4096;
    private int jitter = 0;
    private long random = 1;

    private int receiver = 0;
    private int control = 0;
    private int integral = 0;
    private int error = 0;
    private int detector = 0;
    private int gainP = 8;
    private int gainI = 1;

    private int edgeError = 0;
    private int product = 0;
    private int earlyValue = 0;
    private int middleValue = 0;
    private int middleLevel = 0;
    private int levelAtData = 0;

    private static void demand(boolean inRange) {
        if (!inRange) {
            throw new IllegalArgumentException();
        }
    }

    int setOffset(int offset) {
        demand(-300 <= offset && offset <= 300);
        step = 4096 + offset;
        return step;
    }

    void setJitter(int newJitter, int seed) {
        demand(0 <= newJitter && newJitter <= 2000);
        demand(0 <= seed);
        jitter = newJitter;
        random = seed;
    }

    int setDetector(int newDetector) {
        demand(0 <= newDetector && newDetector <= 4);
        int before = detector;
        detector = newDetector;
        return before;
    }

    void setGains(int p, int i) {
        demand(0 <= p && p <= 64);
        demand(0 <= i && i <= 64);
        gainP = p;
        gainI = i;
    }

    int setPhase(int phase) {
        demand(0 <= phase && phase <= 65535);
        int before = receiver;
        receiver = phase;
        return before;
    }

    void release() {
        integral = 0;
        control = 0;
    }

    int run(int ticks) {
        demand(1 <= ticks && ticks <= 800);
        int before = strobes.size();
        for (int k = 0; k < ticks; k++) {
            tick();
        }
        return strobes.size() - before;
    }

    int ticks() {
        return lines.size();
    }

    int sent() {
        return (int) (senderTotal / 65536);
    }

    int line() {
        return sentBit(sent());
    }

    int level() {
        return levelAt(ticks());
    }

    int sender() {
        return (int) (senderTotal % 65536);
    }

    int receiver() {
        return receiver;
    }

    int error() {
        return error;
    }

    int integral() {
        return integral;
    }

    int control() {
        return control;
    }

    int received() {
        return strobes.size();
    }

    int bit(int ago) {
        if (ago < 1 || ago > 32 || ago > received()) {
            throw new IndexOutOfBoundsException();
        }
        return receivedBits.charAt(received() - ago) - '0';
    }

    int phase() {
        if (strobes.isEmpty()) {
            throw new IllegalStateException();
        }
        return strobes.get(strobes.size() - 1).phase();
    }

    int repeated() {
        int sum = 0;
        for (int k = 1; k < strobes.size(); k++) {
            sum += stepTo(k) == 0 ? 1 : 0;
        }
        return sum;
    }

    int skipped() {
        int sum = 0;
        for (int k = 1; k < strobes.size(); k++) {
            sum += Math.max(0, stepTo(k) - 1);
        }
        return sum;
    }

    boolean isLocked() {
        if (strobes.size() < 32) {
            return false;
        }
        for (int k = strobes.size() - 32; k < strobes.size(); k++) {
            int phase = strobes.get(k).phase();
            if (phase < -16384 || phase > 16383 || k > 0 && stepTo(k) != 1) {
                return false;
            }
        }
        return true;
    }

    int wander() {
        int sum = 0;
        for (int k = Math.max(0, strobes.size() - 32); k < strobes.size(); k++) {
            sum += Math.abs(strobes.get(k).phase());
        }
        return sum;
    }

    int alignment() {
        return align()[0];
    }

    int frames() {
        return align()[1];
    }

    int losses() {
        return align()[2];
    }

    int bestPhase() {
        int best = 15;
        for (int o = 15; o >= 0; o--) {
            best = costOf(o) <= costOf(best) ? o : best;
        }
        return best;
    }

    int cost(int remainder) {
        demand(0 <= remainder && remainder <= 15);
        return costOf(remainder);
    }

    private int costOf(int o) {
        int sum = 0;
        for (int tick = Math.max(1, ticks() - 255); tick <= ticks(); tick++) {
            if (lineAt(tick) != lineAt(tick - 1)) {
                int r = tick % 16;
                sum += 8 - Math.min((o - r + 16) % 16, (r - o + 16) % 16);
            }
        }
        return sum;
    }

    private int stepTo(int strobe) {
        return strobes.get(strobe).number() - strobes.get(strobe - 1).number();
    }

    private boolean isSyncAt(int end) {
        return end >= 6 && receivedBits.substring(end - 6, end).equals(SYNC);
    }

    /** State, frames and losses after all received bits. */
    private int[] align() {
        int state = 0;
        int frames = 0;
        int losses = 0;
        int left = 0;
        int matches = 0;
        int misses = 0;
        for (int end = 1; end <= receivedBits.length(); end++) {
            boolean sync = isSyncAt(end);
            if (state == 0) {
                if (sync) {
                    state = 1;
                    left = end;
                    matches = 0;
                }
            } else if ((end - left) % 24 == 0) {
                if (state == 1) {
                    matches += sync ? 1 : 0;
                    state = !sync ? 0 : matches == 2 ? 2 : 1;
                    misses = 0;
                } else {
                    frames += sync ? 1 : 0;
                    misses = sync ? 0 : misses + 1;
                    if (misses == 3) {
                        state = 0;
                        losses++;
                    }
                }
            }
        }
        return new int[] {state, frames, losses};
    }

    /** The value of the line in a tick, counted from 1; those before count as 1. */
    private int lineAt(int tick) {
        return tick < 1 ? 1 : lines.get(tick - 1);
    }

    private int levelAt(int tick) {
        int ones = 0;
        for (int k = 0; k < 8; k++) {
            ones += lineAt(tick - k);
        }
        return 2 * ones - 8;
    }

    private int sentBit(int number) {
        while (sentBits.size() <= number) {
            int position = sentBits.size() % 24;
            if (position < 6) {
                sentBits.add(SYNC.charAt(position) - '0');
            } else {
                char last = register.charAt(6);
                char lastButOne = register.charAt(5);
                register = (last == lastButOne ? "0" : "1") + register.substring(0, 6);
                sentBits.add(last - '0');
            }
        }
        return sentBits.get(number);
    }

    private void tick() {
        int d = 0;
        if (jitter != 0) {
            random = (1103515245L * random + 12345L) % 2147483648L;
            d = (int) (random / 65536 % (2L * jitter + 1)) - jitter;
        }
        senderTotal += step + d;
        lines.add(line());
        int now = ticks();
        if (lineAt(now) != lineAt(now - 1)) {
            edgeError = (32768 - receiver) / 256;
        }
        if (lineAt(now) != lineAt(now - 8)) {
            product += receiver >= 16384 && receiver <= 49151 ? 1 : -1;
        }
        int old = receiver;
        receiver += 4096 + control;
        if (old < 16384 && receiver >= 16384 && detector == 4) {
            measured(earlyValue - Math.abs(level()));
        }
        if (old < 32768 && receiver >= 32768) {
            middleValue = line();
            middleLevel = level();
        }
        if (old < 49152 && receiver >= 49152) {
            earlyValue = Math.abs(level());
        }
        if (receiver >= 65536) {
            receiver -= 65536;
            dataStrobe();
        }
    }

    private void dataStrobe() {
        strobes.add(new Strobe(sender() - 32768, sent()));
        receivedBits.append(line());
        if (detector == 0) {
            measured(bangBang());
        } else if (detector == 1) {
            measured(edgeError);
        } else if (detector == 2) {
            measured(product);
        } else if (detector == 3) {
            measured(middleLevel * (level() - levelAtData));
        }
        edgeError = 0;
        product = 0;
        levelAtData = level();
    }

    private int bangBang() {
        if (received() == 1 || bit(1) == bit(2)) {
            return 0;
        }
        return middleValue == bit(2) ? -1 : 1;
    }

    private void measured(int newError) {
        error = newError;
        integral = Math.max(-262144, Math.min(262144, integral + gainI * error));
        int quotient = (int) Math.floor(integral / 256.0);
        control = Math.max(-1024, Math.min(1024, gainP * error + quotient));
    }
}
