/** Promise 6: what OP 8 does. */
public final class SystemCallsTest {
    private static final Checks CHECKS = new Checks("SystemCallsTest");

    public static void main(String[] args) {
        prints();
        forks();
        forkSharesSheets();
        forkGetsTheLeast();
        forkAtTheLastPlace();
        forkWithoutRoom();
        forkWithDeadOnesOnly();
        yieldEndsTheTurn();
        yieldAsTheFourth();
        yieldAlone();
        sleepsNotBelowOne();
        sleepsOneTick();
        sleepsVeryLong();
        waitsWithoutChildren();
        waitTakesTheLeastDeadOne();
        waitTakesADeadOneBeforeALivingOne();
        waitTakesNumberZero();
        waitIsDoneAgain();
        waitLeavesOthersAlone();
        waitTakesNoGrandchild();
        tellsItsNumber();
        CHECKS.end();
    }

    private static void prints() {
        CHECKS.sentence(Sentence.PRINT);
        SheetKernel x = Words.machine(Words.load(1, 0, 6), Words.print(1), Words.load(1, 0, 7), Words.print(1),
            Words.print(3), Words.jump(5));
        Words.lay(x, 0, 6, Integer.MIN_VALUE, Integer.MAX_VALUE);
        x.run(5);
        CHECKS.printed(x, Integer.MIN_VALUE, Integer.MAX_VALUE, 0);
        CHECKS.registers(x, 0, 0, Integer.MAX_VALUE, 0, 0);
    }

    private static void forks() {
        CHECKS.sentence(Sentence.FORK);
        SheetKernel x = Words.ran(5, Words.set(0, 1), Words.set(1, 2), Words.set(2, 3), Words.set(3, 4),
            Words.fork(2), Words.jump(5));
        CHECKS.process(x, 0, 1, 5, -2, 0, 0, 1, 5);
        CHECKS.registers(x, 0, 1, 2, 1, 4);
        CHECKS.process(x, 1, 1, 5, 0, 0, 0, 0, 0);
        CHECKS.registers(x, 1, 1, 2, -1, 4);
        CHECKS.due("count(1)", 2, x.count(1));
    }

    /** PAGE 7 is on the disk, PAGES 1 to 5 have no SHEET. */
    private static void forkSharesSheets() {
        CHECKS.sentence(Sentence.FORK);
        SheetKernel x = Words.machine(Words.fork(2), Words.jump(1));
        x.poke(0, 56, 77);
        x.spawn();
        for (int k = 0; k < 5; k++) {
            x.poke(1, 8 * k, 1);
        }
        x.poke(0, 48, 66);
        CHECKS.due("PAGE 7 is on the disk", 2, x.page(0, 7, 0));
        x.run(1);
        int[] pages = {0, 6, 7};
        for (int k : pages) {
            CHECKS.due("PAGE " + k + " belongs to two", 2, x.page(2, k, 5));
            for (int what = 0; what < 6; what++) {
                CHECKS.due("page(2, " + k + ", " + what + ")", x.page(0, k, what), x.page(2, k, what));
            }
        }
        CHECKS.page(x, 2, 1, 0, -2, -2, 0, 0, 0);
        CHECKS.due("peek", 77, x.peek(2, 56));
        CHECKS.due("COPIES", 0, x.count(10));
        CHECKS.due("FAULTS of the child", 0, x.process(2, 5));
    }

    /** PROCESS 2 forks while 0 and 3 are not there. */
    private static void forkGetsTheLeast() {
        CHECKS.sentence(Sentence.FORK);
        SheetKernel x = new SheetKernel();
        for (int p = 0; p < 3; p++) {
            x.spawn();
        }
        x.poke(1, 0, Words.jump(0));
        Words.lay(x, 2, 0, Words.fork(1), Words.fork(1), Words.jump(2));
        x.kill(0);
        x.run(5);
        CHECKS.due("its number", 0, x.process(2, 11));
        CHECKS.due("its PARENT", 2, x.process(0, 2));
        x.run(1);
        CHECKS.due("its number", 3, x.process(2, 11));
        CHECKS.due("its PARENT", 2, x.process(3, 2));
    }

    private static void forkAtTheLastPlace() {
        CHECKS.sentence(Sentence.FORK);
        SheetKernel x = Words.machine(Words.jump(63));
        x.poke(0, 63, Words.fork(1));
        x.run(2);
        CHECKS.process(x, 0, 1, 64, -2, 0, 0, 2, 2);
        CHECKS.process(x, 1, 1, 64, 0, 0, 0, 0, 0);
    }

    private static void forkWithoutRoom() {
        CHECKS.sentence(Sentence.FORK);
        SheetKernel x = Words.ran(4, Words.fork(0), Words.fork(1), Words.fork(2), Words.fork(3), Words.jump(4));
        CHECKS.registers(x, 0, 1, 2, 3, -2);
        CHECKS.due("count(1)", 4, x.count(1));
        CHECKS.page(x, 0, 0, 1, 0, -2, 1, 1, 4);
        CHECKS.process(x, 0, 1, 4, -2, 0, 0, 1, 4);
        CHECKS.due("WILD", 0, x.count(13));
    }

    private static void forkWithDeadOnesOnly() {
        CHECKS.sentence(Sentence.FORK);
        SheetKernel x = Words.ran(3, Words.fork(0), Words.fork(1), Words.fork(2), Words.fork(3), Words.jump(4));
        for (int p = 1; p < 4; p++) {
            x.kill(p);
        }
        x.run(1);
        CHECKS.registers(x, 0, 1, 2, 3, -2);
        CHECKS.due("DEAD yet", 4, x.process(1, 0));
    }

    /** PROCESS 0 has done this WORD behind so many others; 1 loops. */
    private static SheetKernel two(int before, int word) {
        SheetKernel x = new SheetKernel();
        x.spawn();
        x.spawn();
        for (int i = 0; i < before; i++) {
            x.poke(0, i, Words.set(1, i));
        }
        Words.lay(x, 0, before, word, Words.jump(before + 1));
        x.poke(1, 0, Words.jump(0));
        x.run(before + 1);
        return x;
    }

    private static void yieldEndsTheTurn() {
        CHECKS.sentence(Sentence.YIELD);
        for (int before = 0; before < 3; before++) {
            SheetKernel x = two(before, Words.yieldTurn());
            CHECKS.process(x, 0, 1, before + 1, -2, 0, 0, 1, before + 1);
            CHECKS.counts(x, 2, 0, before + 1);
            for (int done = 1; done <= 4; done++) {
                x.run(1);
                CHECKS.counts(x, 2, 1, done);
            }
            x.run(1);
            CHECKS.counts(x, 2, 0, 1);
            x.run(1);
            CHECKS.counts(x, 2, 0, 2);
        }
    }

    private static void yieldAsTheFourth() {
        CHECKS.sentence(Sentence.YIELD);
        SheetKernel x = two(3, Words.yieldTurn());
        CHECKS.counts(x, 2, 0, 4);
        x.run(1);
        CHECKS.counts(x, 2, 1, 1);
        x.run(1);
        CHECKS.counts(x, 2, 1, 2);
    }

    private static void yieldAlone() {
        CHECKS.sentence(Sentence.YIELD);
        SheetKernel x = Words.ran(1, Words.yieldTurn(), Words.jump(0));
        CHECKS.counts(x, 2, 0, 1);
        x.run(1);
        CHECKS.counts(x, 2, 0, 1);
        x.run(1);
        CHECKS.counts(x, 2, 0, 2);
    }

    /** REGISTER 1 gets this value, and then it SLEEPS by it. */
    private static SheetKernel sleeper(int ticks) {
        SheetKernel x = Words.machine(Words.load(1, 0, 7), Words.sleep(1), Words.jump(2));
        x.poke(0, 7, ticks);
        x.run(2);
        return x;
    }

    private static void sleepsNotBelowOne() {
        CHECKS.sentence(Sentence.SLEEP);
        for (int ticks : new int[] {0, -1, Integer.MIN_VALUE}) {
            SheetKernel x = sleeper(ticks);
            CHECKS.process(x, 0, 1, 2, -2, 0, 0, 1, 2);
            CHECKS.due("run", 1, x.run(1));
            CHECKS.counts(x, 2, 0, 3);
            CHECKS.due("IDLE", 0, x.count(11));
        }
    }

    private static void sleepsOneTick() {
        CHECKS.sentence(Sentence.SLEEP);
        SheetKernel x = sleeper(1);
        CHECKS.process(x, 0, 2, 2, -2, 0, 1, 1, 2);
        CHECKS.due("run", 1, x.run(1));
        CHECKS.process(x, 0, 1, 2, -2, 0, 0, 1, 3);
        SheetKernel y = sleeper(2);
        CHECKS.process(y, 0, 2, 2, -2, 0, 2, 1, 2);
        CHECKS.due("run", 0, y.run(1));
        CHECKS.due("run", 1, y.run(1));
    }

    private static void sleepsVeryLong() {
        CHECKS.sentence(Sentence.SLEEP);
        SheetKernel x = sleeper(Integer.MAX_VALUE);
        CHECKS.due("sleeps yet", Integer.MAX_VALUE, x.process(0, 4));
        CHECKS.due("run", 0, x.run(40));
        CHECKS.process(x, 0, 2, 2, -2, 0, Integer.MAX_VALUE - 40, 1, 2);
    }

    private static void waitsWithoutChildren() {
        CHECKS.sentence(Sentence.WAIT);
        SheetKernel x = Words.ran(1, Words.await(3), Words.jump(1));
        CHECKS.process(x, 0, 1, 1, -2, 0, 0, 1, 1);
        CHECKS.registers(x, 0, 0, 0, 0, -2);
    }

    private static void waitTakesTheLeastDeadOne() {
        CHECKS.sentence(Sentence.WAIT);
        SheetKernel x = Words.ran(2, Words.fork(0), Words.fork(1), Words.await(2), Words.await(3), Words.await(2));
        x.kill(2);
        x.kill(1);
        x.run(1);
        CHECKS.due("the least is gone", 0, x.process(1, 0));
        CHECKS.due("the other is DEAD yet", 4, x.process(2, 0));
        CHECKS.registers(x, 0, 1, 2, -9, 0);
        x.run(1);
        CHECKS.due("the other is gone, too", 0, x.process(2, 0));
        CHECKS.registers(x, 0, 1, 2, -9, -9);
        x.run(1);
        CHECKS.registers(x, 0, 1, 2, -2, -9);
    }

    private static void waitTakesADeadOneBeforeALivingOne() {
        CHECKS.sentence(Sentence.WAIT);
        SheetKernel x = Words.ran(2, Words.fork(0), Words.fork(1), Words.await(2), Words.jump(3));
        x.kill(2);
        x.run(1);
        CHECKS.process(x, 0, 1, 3, -2, 0, 0, 1, 3);
        CHECKS.registers(x, 0, 1, 2, -9, 0);
        CHECKS.due("1 lives", 1, x.process(1, 0));
        CHECKS.due("2 is gone", 0, x.process(2, 0));
    }

    private static void waitTakesNumberZero() {
        CHECKS.sentence(Sentence.WAIT);
        SheetKernel x = Words.parentOfZero();
        x.run(1);
        CHECKS.due("it WAITS for 0", 3, x.process(1, 0));
        x.kill(0);
        x.run(1);
        CHECKS.registers(x, 1, 0, 0, -9, 0);
        CHECKS.due("0 is gone", 0, x.process(0, 0));
    }

    private static void waitIsDoneAgain() {
        CHECKS.sentence(Sentence.WAIT);
        SheetKernel x = Words.ran(1, Words.fork(0), Words.await(2), Words.await(2), Words.jump(3));
        Words.lay(x, 1, 1, Words.set(1, 6), Words.exit(1));
        CHECKS.due("run", 1, x.run(1));
        CHECKS.process(x, 0, 3, 1, -2, 0, 0, 1, 2);
        CHECKS.registers(x, 0, 1, 0, 0, 0);
        CHECKS.counts(x, 2, 0, 2);
        x.run(1);
        CHECKS.due("it WAITS", 3, x.process(0, 0));
        x.run(1);
        CHECKS.process(x, 1, 4, 3, 0, 6, 0, 0, 2);
        CHECKS.process(x, 0, 1, 1, -2, 0, 0, 1, 2);
        x.run(1);
        CHECKS.process(x, 0, 1, 2, -2, 0, 0, 1, 3);
        CHECKS.registers(x, 0, 1, 0, 6, 0);
        CHECKS.counts(x, 1, 1, 0, 1);
        x.run(1);
        CHECKS.process(x, 0, 1, 3, -2, 0, 0, 1, 4);
        CHECKS.registers(x, 0, 1, 0, -2, 0);
    }

    /** PROCESS 2 has no children; 1 is DEAD, but a child of 0. */
    private static void waitLeavesOthersAlone() {
        CHECKS.sentence(Sentence.WAIT);
        SheetKernel x = Words.parentAndChild();
        CHECKS.due("spawn", 2, x.spawn());
        Words.lay(x, 2, 0, Words.await(1), Words.jump(1));
        x.kill(1);
        x.run(4);
        CHECKS.registers(x, 2, 0, -2, 0, 0);
        CHECKS.due("DEAD yet", 4, x.process(1, 0));
    }

    /** PROCESS 1 is a child of 0, and 2 one of 1: when 1 ENDS, 2 is no child of 0 for that. */
    private static void waitTakesNoGrandchild() {
        CHECKS.sentence(Sentence.WAIT);
        SheetKernel x = Words.ran(2, Words.fork(0), Words.await(1), Words.await(2), Words.jump(3));
        Words.lay(x, 1, 1, Words.fork(3), Words.jump(2));
        x.run(1);
        CHECKS.due("PARENT of 2", 1, x.process(2, 2));
        x.kill(1);
        x.poke(2, 2, Words.jump(2));
        x.run(4);
        CHECKS.due("PARENT of 2", -2, x.process(2, 2));
        x.run(2);
        CHECKS.registers(x, 0, 1, -9, -2, 0);
        CHECKS.due("2 lives", 1, x.process(2, 0));
    }

    private static void tellsItsNumber() {
        CHECKS.sentence(Sentence.SELF);
        SheetKernel x = new SheetKernel();
        for (int p = 0; p < 4; p++) {
            x.spawn();
            Words.lay(x, p, 0, Words.set(1, 9), Words.self(1), Words.jump(2));
        }
        x.run(16);
        for (int p = 0; p < 4; p++) {
            CHECKS.registers(x, p, 0, p, 0, 0);
        }
    }
}
