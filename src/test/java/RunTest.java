/** Promise 6: TICKS and TURNS. What INSTRUCTIONS do is in InstructionsTest and SystemCallsTest. */
public final class RunTest {
    private static final Checks CHECKS = new Checks("RunTest");

    public static void main(String[] args) {
        oneTickAndForty();
        notIdleOnes();
        refused();
        timeIsOneMore();
        sleepersAreReadyInTime();
        severalSleepers();
        fourInATurn();
        roundToItself();
        fromThreeToZero();
        notReadyOnesAreLeftOut();
        theFirstTurn();
        idleWithoutAny();
        idleWithSleepersWaitersAndDeadOnes();
        placeIsReachedToRead();
        placeIsReachedBeforeWhatItNeeds();
        wildPlaceReachesNothing();
        anewAfterFour();
        anewAfterAYield();
        anewWithAnother();
        anewAfterIdleTicks();
        sameTurnAfterASleep();
        sameTurnForANewOneOfItsNumber();
        CHECKS.end();
    }

    private static SheetKernel loops(int processes) {
        SheetKernel x = new SheetKernel();
        for (int p = 0; p < processes; p++) {
            x.spawn();
            x.poke(p, 0, Words.jump(0));
        }
        return x;
    }

    private static void oneTickAndForty() {
        CHECKS.sentence(Sentence.RUN);
        SheetKernel x = loops(1);
        CHECKS.due("run 1", 1, x.run(1));
        CHECKS.due("TIME", 1, x.count(0));
        CHECKS.due("run 40", 40, x.run(40));
        CHECKS.due("TIME", 41, x.count(0));
    }

    private static void notIdleOnes() {
        CHECKS.sentence(Sentence.RUN);
        SheetKernel x = new SheetKernel();
        CHECKS.due("run", 0, x.run(40));
        x.spawn();
        CHECKS.due("run into EXIT", 1, x.run(5));
        CHECKS.due("TIME", 45, x.count(0));
        CHECKS.due("IDLE", 44, x.count(11));
        SheetKernel y = Words.ran(2, Words.set(1, 3), Words.sleep(1), Words.jump(2));
        CHECKS.due("run over a sleep", 8, y.run(10));
        CHECKS.due("IDLE", 2, y.count(11));
    }

    private static void refused() {
        CHECKS.sentence(Sentence.RUN_REFUSED);
        SheetKernel x = loops(1);
        for (int bad : new int[] {0, -1, 41, 42, -40, Integer.MIN_VALUE, Integer.MAX_VALUE}) {
            CHECKS.due("run " + bad, -1, x.run(bad));
        }
        CHECKS.counts(x, 0, 0, 1, 3, 0);
        CHECKS.due("IDLE", 0, x.count(11));
        CHECKS.due("begun", 0, x.process(0, 6));
    }

    private static void timeIsOneMore() {
        CHECKS.sentence(Sentence.TICK_TIME);
        SheetKernel x = loops(1);
        for (int t = 1; t <= 5; t++) {
            x.run(1);
            CHECKS.due("TIME", t, x.count(0));
        }
        x.kill(0);
        x.run(1);
        CHECKS.due("TIME goes on in IDLE TICKS", 6, x.count(0));
    }

    private static void sleepersAreReadyInTime() {
        CHECKS.sentence(Sentence.TICK_TIME);
        for (int ticks = 1; ticks < 6; ticks++) {
            SheetKernel x = Words.ran(2, Words.set(1, ticks), Words.sleep(1), Words.jump(2));
            for (int left = ticks; left > 1; left--) {
                CHECKS.process(x, 0, 2, 2, -2, 0, left, 1, 2);
                CHECKS.due("run", 0, x.run(1));
            }
            CHECKS.process(x, 0, 2, 2, -2, 0, 1, 1, 2);
            CHECKS.due("run", 1, x.run(1));
            CHECKS.process(x, 0, 1, 2, -2, 0, 0, 1, 3);
        }
    }

    private static void severalSleepers() {
        CHECKS.sentence(Sentence.TICK_TIME);
        SheetKernel x = loops(2);
        Words.lay(x, 0, 0, Words.set(1, 2), Words.sleep(1), Words.jump(2));
        Words.lay(x, 1, 0, Words.set(1, 1), Words.sleep(1), Words.jump(2));
        CHECKS.due("run", 2, x.run(2));
        CHECKS.due("sleeps yet", 2, x.process(0, 4));
        CHECKS.due("run", 1, x.run(1));
        CHECKS.due("sleeps yet", 1, x.process(0, 4));
        CHECKS.due("run", 1, x.run(1));
        CHECKS.counts(x, 2, 1, 2);
        CHECKS.due("awake", 1, x.process(0, 0));
        CHECKS.due("asleep", 2, x.process(1, 0));
        CHECKS.due("sleeps yet", 1, x.process(1, 4));
        CHECKS.due("run", 1, x.run(1));
        CHECKS.counts(x, 2, 1, 3);
    }

    private static void fourInATurn() {
        CHECKS.sentence(Sentence.TICK_TURN);
        SheetKernel x = loops(3);
        for (int t = 0; t < 30; t++) {
            CHECKS.due("run", 1, x.run(1));
            CHECKS.counts(x, 2, t / 4 % 3, t % 4 + 1);
        }
        CHECKS.due("begun by 0", 12, x.process(0, 6));
        CHECKS.due("begun by 1", 10, x.process(1, 6));
        CHECKS.due("begun by 2", 8, x.process(2, 6));
    }

    private static void roundToItself() {
        CHECKS.sentence(Sentence.TICK_TURN);
        for (int alone = 0; alone < 4; alone++) {
            SheetKernel x = loops(4);
            for (int p = 0; p < 4; p++) {
                if (p != alone) {
                    x.kill(p);
                }
            }
            for (int t = 0; t < 10; t++) {
                CHECKS.due("run", 1, x.run(1));
                CHECKS.counts(x, 2, alone, t % 4 + 1);
            }
        }
    }

    private static void fromThreeToZero() {
        CHECKS.sentence(Sentence.TICK_TURN);
        SheetKernel x = loops(4);
        x.kill(1);
        x.kill(2);
        int[] turns = {3, 0, 3, 0};
        for (int turn : turns) {
            x.run(4);
            CHECKS.counts(x, 2, turn, 4);
        }
    }

    /** PROCESS 1 SLEEPS, 2 is not there. */
    private static void notReadyOnesAreLeftOut() {
        CHECKS.sentence(Sentence.TICK_TURN);
        SheetKernel x = loops(4);
        Words.lay(x, 1, 0, Words.set(1, 99), Words.sleep(1));
        x.kill(2);
        x.run(10);
        CHECKS.due("1 SLEEPS", 2, x.process(1, 0));
        CHECKS.counts(x, 2, 1, 2);
        int[] turns = {3, 0, 3};
        for (int turn : turns) {
            x.run(4);
            CHECKS.counts(x, 2, turn, 4);
        }
    }

    /** PROCESS 3 has the TURN at first, which goes behind it only if it is not READY. */
    private static void theFirstTurn() {
        CHECKS.sentence(Sentence.TICK_TURN);
        SheetKernel x = loops(4);
        x.run(1);
        CHECKS.counts(x, 2, 3, 1);
        x.run(4);
        CHECKS.counts(x, 2, 0, 1);
        SheetKernel y = loops(3);
        y.kill(0);
        y.run(1);
        CHECKS.counts(y, 2, 1, 1);
    }

    private static void idleWithoutAny() {
        CHECKS.sentence(Sentence.TICK_TURN);
        SheetKernel x = new SheetKernel();
        CHECKS.due("run", 0, x.run(1));
        CHECKS.counts(x, 2, 3, 0);
        CHECKS.due("IDLE", 1, x.count(11));
        SheetKernel y = loops(1);
        y.run(3);
        y.kill(0);
        CHECKS.due("run", 0, y.run(2));
        CHECKS.counts(y, 2, 0, 3);
        CHECKS.due("IDLE", 2, y.count(11));
    }

    /** PROCESS 0 WAITS, 1 is a child of it and SLEEPS, 2 is a child of 1 and DEAD. */
    private static void idleWithSleepersWaitersAndDeadOnes() {
        CHECKS.sentence(Sentence.TICK_TURN);
        SheetKernel x = Words.ran(2, Words.fork(0), Words.await(1), Words.jump(2));
        Words.lay(x, 1, 1, Words.fork(1), Words.set(2, 50), Words.sleep(2), Words.jump(4));
        x.run(1);
        x.kill(2);
        x.run(2);
        CHECKS.due("0 WAITS", 3, x.process(0, 0));
        CHECKS.due("1 SLEEPS", 2, x.process(1, 0));
        CHECKS.due("2 is DEAD", 4, x.process(2, 0));
        CHECKS.due("run", 0, x.run(40));
        CHECKS.due("IDLE", 40, x.count(11));
        CHECKS.counts(x, 2, 1, 3);
        CHECKS.due("run", 1, x.run(10));
    }

    private static void placeIsReachedToRead() {
        CHECKS.sentence(Sentence.TICK_INSTRUCTION);
        SheetKernel x = Words.ran(1, Words.jump(8));
        CHECKS.due("no SHEET yet", 0, x.page(0, 1, 0));
        x.spawn();
        x.poke(1, 0, Words.jump(0));
        x.run(1);
        CHECKS.due("the WORD there was an EXIT", 0, x.process(0, 0));
        CHECKS.due("FAULTS", 3, x.count(7));
        SheetKernel y = Words.parentAndChild();
        y.run(8);
        CHECKS.page(y, 0, 0, 1, 0, -2, 1, 1, 2);
        CHECKS.due("no COPY to read", 0, y.count(10));
    }

    /** Both PAGES are without a FRAME: the one of the PLACE gets the lesser one. */
    private static void placeIsReachedBeforeWhatItNeeds() {
        CHECKS.sentence(Sentence.TICK_INSTRUCTION);
        SheetKernel x = Words.machine(Words.load(1, 2, 63), Words.jump(1));
        x.spawn();
        for (int k = 0; k < 6; k++) {
            x.poke(1, 8 * k, 1);
        }
        CHECKS.due("the PLACE is on the disk", 2, x.page(0, 0, 0));
        x.kill(1);
        CHECKS.due("run", 1, x.run(1));
        CHECKS.page(x, 0, 0, 1, 0, 0, 1, 0, 1);
        CHECKS.page(x, 0, 7, 1, 1, -2, 1, 0, 1);
        CHECKS.due("FAULTS", 3, x.process(0, 5));
        CHECKS.due("read", 1, x.count(9));
    }

    private static void wildPlaceReachesNothing() {
        CHECKS.sentence(Sentence.TICK_INSTRUCTION);
        for (int place : new int[] {-1, 64}) {
            SheetKernel x = Words.ran(2, Words.jump(place));
            CHECKS.due("WILD", 1, x.count(13));
            CHECKS.due("FAULTS", 1, x.count(7));
        }
    }

    private static void anewAfterFour() {
        CHECKS.sentence(Sentence.TICK_ANEW);
        SheetKernel x = loops(1);
        x.run(4);
        CHECKS.counts(x, 2, 0, 4);
        x.run(1);
        CHECKS.counts(x, 2, 0, 1);
    }

    private static void anewAfterAYield() {
        CHECKS.sentence(Sentence.TICK_ANEW);
        SheetKernel x = Words.ran(1, Words.yieldTurn(), Words.jump(1));
        CHECKS.counts(x, 2, 0, 1);
        for (int done = 1; done <= 4; done++) {
            x.run(1);
            CHECKS.counts(x, 2, 0, done);
        }
    }

    private static void anewWithAnother() {
        CHECKS.sentence(Sentence.TICK_ANEW);
        SheetKernel x = loops(2);
        x.run(2);
        CHECKS.counts(x, 2, 0, 2);
        x.kill(0);
        x.run(1);
        CHECKS.counts(x, 2, 1, 1);
        SheetKernel y = loops(2);
        Words.lay(y, 0, 0, Words.set(1, 3), Words.sleep(1), Words.jump(2));
        y.run(5);
        CHECKS.due("0 is READY, but has lost the TURN", 1, y.process(0, 0));
        CHECKS.counts(y, 2, 1, 3);
        y.run(2);
        CHECKS.counts(y, 2, 0, 1);
    }

    /** Its fourth INSTRUCTION is a SLEEP: the TURN was over all the IDLE TICKS long. */
    private static void anewAfterIdleTicks() {
        CHECKS.sentence(Sentence.TICK_ANEW);
        SheetKernel x = Words.machine(Words.set(1, 3), Words.set(2, 3), Words.set(3, 3), Words.sleep(1),
            Words.jump(4));
        CHECKS.due("run", 4, x.run(6));
        CHECKS.counts(x, 2, 0, 4);
        x.run(1);
        CHECKS.counts(x, 2, 0, 1);
    }

    private static void sameTurnAfterASleep() {
        CHECKS.sentence(Sentence.TICK_ANEW);
        SheetKernel x = Words.ran(2, Words.set(1, 3), Words.sleep(1), Words.jump(2));
        CHECKS.due("run", 0, x.run(2));
        CHECKS.counts(x, 2, 0, 2);
        x.run(1);
        CHECKS.counts(x, 2, 0, 3);
    }

    private static void sameTurnForANewOneOfItsNumber() {
        CHECKS.sentence(Sentence.TICK_ANEW);
        SheetKernel x = loops(2);
        x.run(2);
        x.kill(0);
        CHECKS.counts(x, 2, 0, 2);
        CHECKS.due("spawn", 0, x.spawn());
        x.poke(0, 0, Words.jump(0));
        x.run(1);
        CHECKS.counts(x, 2, 0, 3);
    }
}
