/** Promise 6: TICKS and TURNS. What INSTRUCTIONS do is in InstructionsTest. */
public final class RunTest {
    private static final Checks CHECKS = new Checks("RunTest");

    public static void main(String[] args) {
        refused();
        idle();
        fourEach();
        aloneBeginsAnew();
        yieldEndsTheTurn();
        turnGoesOnAfterASleep();
        turnIsANumbers();
        theFirstTurn();
        sleepers();
        CHECKS.end();
    }

    private static SheetKernel loops(int processes) {
        SheetKernel x = new SheetKernel();
        for (int p = 0; p < processes; p++) {
            x.spawn();
            x.poke(p, 0, Words.jump(0));
        }
        return x;
    }

    private static void refused() {
        SheetKernel x = loops(1);
        for (int bad : new int[] {0, -1, 41, Integer.MIN_VALUE, Integer.MAX_VALUE}) {
            CHECKS.due("run " + bad, -1, x.run(bad));
        }
        CHECKS.counts(x, 0, 0, 1, 3, 0);
        CHECKS.due("process(0, 6)", 0, x.process(0, 6));
        CHECKS.due("run 1", 1, x.run(1));
        CHECKS.due("run 40", 40, x.run(40));
        CHECKS.counts(x, 0, 41, 1, 0, 1);
    }

    private static void idle() {
        SheetKernel x = new SheetKernel();
        CHECKS.due("run", 0, x.run(40));
        CHECKS.counts(x, 0, 40, 0, 3, 0);
        CHECKS.due("count(11)", 40, x.count(11));
        x.spawn();
        CHECKS.due("run into EXIT", 1, x.run(5));
        CHECKS.counts(x, 0, 45, 0, 0, 1);
        CHECKS.due("count(11)", 44, x.count(11));
        CHECKS.due("count(7)", 1, x.count(7));
    }

    private static void fourEach() {
        SheetKernel x = loops(3);
        for (int t = 0; t < 30; t++) {
            CHECKS.due("run", 1, x.run(1));
            CHECKS.counts(x, 2, t / 4 % 3, t % 4 + 1);
        }
        CHECKS.due("process(0, 6)", 12, x.process(0, 6));
        CHECKS.due("process(1, 6)", 10, x.process(1, 6));
        CHECKS.due("process(2, 6)", 8, x.process(2, 6));
    }

    private static void aloneBeginsAnew() {
        SheetKernel x = loops(1);
        for (int t = 0; t < 10; t++) {
            x.run(1);
            CHECKS.counts(x, 2, 0, t % 4 + 1);
        }
    }

    private static void yieldEndsTheTurn() {
        SheetKernel x = loops(2);
        Words.lay(x, 0, 0, Words.yieldTurn(), Words.jump(1));
        x.run(1);
        CHECKS.counts(x, 2, 0, 1);
        x.run(1);
        CHECKS.counts(x, 2, 1, 1);
        x.run(4);
        CHECKS.counts(x, 2, 0, 1);
        x.run(1);
        CHECKS.counts(x, 2, 0, 2);
        SheetKernel y = Words.ran(1, Words.yieldTurn(), Words.jump(0));
        y.run(1);
        CHECKS.counts(y, 2, 0, 1);
        y.run(1);
        CHECKS.counts(y, 2, 0, 2);
    }

    private static void turnGoesOnAfterASleep() {
        SheetKernel x = Words.ran(2, Words.set(1, 3), Words.sleep(1), Words.jump(2));
        CHECKS.due("run", 0, x.run(2));
        CHECKS.counts(x, 2, 0, 2);
        x.run(1);
        CHECKS.counts(x, 2, 0, 3);
        SheetKernel y = loops(2);
        Words.lay(y, 0, 0, Words.set(1, 3), Words.sleep(1), Words.jump(2));
        y.run(4);
        CHECKS.counts(y, 2, 1, 2);
        y.run(1);
        CHECKS.due("it is READY, but has lost the TURN", 1, y.process(0, 0));
        CHECKS.counts(y, 2, 1, 3);
        y.run(2);
        CHECKS.counts(y, 2, 0, 1);
    }

    private static void turnIsANumbers() {
        SheetKernel x = loops(2);
        x.run(2);
        x.kill(0);
        CHECKS.counts(x, 2, 0, 2);
        CHECKS.due("spawn", 0, x.spawn());
        x.poke(0, 0, Words.jump(0));
        x.run(1);
        CHECKS.counts(x, 2, 0, 3);
        x.kill(0);
        x.run(1);
        CHECKS.counts(x, 2, 1, 1);
    }

    /** PROCESS 3 has the TURN at first, which goes behind it only if it is not READY. */
    private static void theFirstTurn() {
        SheetKernel x = loops(4);
        x.kill(0);
        x.run(1);
        CHECKS.counts(x, 2, 3, 1);
        x.run(4);
        CHECKS.counts(x, 2, 1, 1);
        SheetKernel y = loops(3);
        y.kill(0);
        y.run(1);
        CHECKS.counts(y, 2, 1, 1);
    }

    private static void sleepers() {
        SheetKernel x = loops(3);
        Words.lay(x, 0, 0, Words.set(1, 2), Words.sleep(1), Words.jump(2));
        Words.lay(x, 1, 0, Words.set(1, 1), Words.sleep(1), Words.jump(2));
        x.kill(2);
        CHECKS.due("run", 2, x.run(2));
        CHECKS.due("sleeps yet", 2, x.process(0, 4));
        CHECKS.due("run", 1, x.run(1));
        CHECKS.due("sleeps yet", 1, x.process(0, 4));
        CHECKS.due("run", 1, x.run(1));
        CHECKS.counts(x, 2, 1, 2);
        CHECKS.due("awake", 1, x.process(0, 0));
        CHECKS.due("asleep", 2, x.process(1, 0));
        CHECKS.due("sleeps yet", 1, x.process(1, 4));
        CHECKS.due("run", 1, x.run(1));
        CHECKS.counts(x, 2, 1, 3);
    }
}
