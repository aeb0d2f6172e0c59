/** The example of README.md answers what README.md says; change them together. */
public final class ReadmeTests {
    private ReadmeTests() {
    }

    public static void main(String[] args) {
        Checks checks = new Checks();
        Phaselock x = new Phaselock();
        checks.due("the step", x.setOffset(40), 4136);
        x.setJitter(500, 7);
        checks.due("the detector before", x.setDetector(1), 0);
        x.setGains(16, 4);
        checks.due("bits", x.run(800), 49);
        checks.due("locked", x.isLocked(), true);
        checks.due("wander", x.wander(), 105382);
        for (int part = 0; part < 10; part++) {
            x.run(800);
        }
        checks.due("alignment", x.alignment(), 2);
        checks.due("frames", x.frames(), 19);
        checks.finish("ReadmeTests");
    }
}
