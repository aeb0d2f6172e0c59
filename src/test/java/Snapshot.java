/** All that the questions of a simulator answer, as one text. */
final class Snapshot {
    private Snapshot() {
    }

    static String of(Phaselock x) {
        StringBuilder text = new StringBuilder();
        add(text, "ticks", x.ticks());
        add(text, "sent", x.sent());
        add(text, "line", x.line());
        add(text, "level", x.level());
        add(text, "sender", x.sender());
        add(text, "receiver", x.receiver());
        add(text, "error", x.error());
        add(text, "integral", x.integral());
        add(text, "control", x.control());
        add(text, "repeated", x.repeated());
        add(text, "skipped", x.skipped());
        add(text, "locked", x.isLocked() ? 1 : 0);
        add(text, "wander", x.wander());
        add(text, "alignment", x.alignment());
        add(text, "frames", x.frames());
        add(text, "losses", x.losses());
        add(text, "bestPhase", x.bestPhase());
        int received = x.received();
        add(text, "received", received);
        if (received > 0) {
            add(text, "phase", x.phase());
        }
        for (int ago = 1; ago <= Math.min(32, received); ago++) {
            add(text, "bit", x.bit(ago));
        }
        for (int remainder = 0; remainder < 16; remainder++) {
            add(text, "cost", x.cost(remainder));
        }
        return text.toString();
    }

    private static void add(StringBuilder text, String name, int value) {
        text.append(' ').append(name).append(' ').append(value);
    }
}
