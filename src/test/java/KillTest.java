/** Promise 5, and how a PROCESS ENDS. */
public final class KillTest {
    private static final Checks CHECKS = new Checks("KillTest");

    public static void main(String[] args) {
        without();
        refused();
        withParent();
        deadChildrenGo();
        livingChildrenStay();
        waitingParentIsReady();
        sleepingParentSleepsOn();
        sharedSheetsStay();
        sleeper();
        CHECKS.end();
    }

    private static void without() {
        SheetKernel x = new SheetKernel();
        x.spawn();
        for (int k = 0; k < 8; k++) {
            x.poke(0, 8 * k, 1);
        }
        CHECKS.counts(x, 4, 6, 2, 2, 8, 2, 0, 0);
        CHECKS.due("kill", true, x.kill(0));
        CHECKS.process(x, 0, 0, 0, 0, 0, 0, 0, 0);
        CHECKS.counts(x, 4, 0, 0, 2, 8, 2, 0, 0);
        CHECKS.due("count(1)", 0, x.count(1));
        CHECKS.due("count(13)", 0, x.count(13));
        x.spawn();
        CHECKS.due("poke", 1, x.poke(0, 0, 1));
        CHECKS.page(x, 0, 0, 1, 0, -2, 1, 1, 1);
    }

    private static void refused() {
        SheetKernel x = new SheetKernel();
        x.spawn();
        for (int bad : new int[] {-1, 4, 1, Integer.MIN_VALUE, Integer.MAX_VALUE}) {
            CHECKS.due("kill " + bad, false, x.kill(bad));
        }
        CHECKS.due("count(1)", 1, x.count(1));
        CHECKS.due("kill", true, x.kill(0));
        CHECKS.due("kill again", false, x.kill(0));
    }

    private static void withParent() {
        SheetKernel x = Words.parentAndChild();
        CHECKS.due("kill", true, x.kill(1));
        CHECKS.process(x, 1, 4, 1, 0, -9, 0, 0, 0);
        CHECKS.due("register", -1, x.process(1, 10));
        CHECKS.page(x, 1, 0, 0, -2, -2, 0, 0, 0);
        CHECKS.due("kill a DEAD one", false, x.kill(1));
        CHECKS.process(x, 1, 4, 1, 0, -9, 0, 0, 0);
        CHECKS.process(x, 0, 1, 1, -2, 0, 0, 1, 1);
        CHECKS.due("count(1)", 2, x.count(1));
    }

    private static void deadChildrenGo() {
        SheetKernel x = Words.parentAndChild();
        x.kill(1);
        CHECKS.due("kill", true, x.kill(0));
        CHECKS.process(x, 0, 0, 0, 0, 0, 0, 0, 0);
        CHECKS.process(x, 1, 0, 0, 0, 0, 0, 0, 0);
        CHECKS.due("count(1)", 0, x.count(1));
    }

    private static void livingChildrenStay() {
        SheetKernel x = Words.parentAndChild();
        x.kill(0);
        CHECKS.process(x, 0, 0, 0, 0, 0, 0, 0, 0);
        CHECKS.process(x, 1, 1, 1, -2, 0, 0, 0, 0);
        CHECKS.due("spawn", 0, x.spawn());
        CHECKS.due("the new 0 is no PARENT", -2, x.process(1, 2));
        CHECKS.due("kill", true, x.kill(1));
        CHECKS.due("without PARENT it is gone", 0, x.process(1, 0));
    }

    private static void waitingParentIsReady() {
        SheetKernel x = Words.ran(1, Words.fork(0), Words.jumpIfZero(1, 2), Words.await(2), Words.print(2),
            Words.jump(4));
        x.poke(1, 2, Words.jump(2));
        x.run(10);
        CHECKS.due("it WAITS", 3, x.process(0, 0));
        CHECKS.due("its PLACE", 2, x.process(0, 1));
        CHECKS.due("kill", true, x.kill(1));
        CHECKS.due("it is READY", 1, x.process(0, 0));
        CHECKS.due("its PLACE", 2, x.process(0, 1));
        x.run(2);
        CHECKS.due("the child is gone", 0, x.process(1, 0));
        CHECKS.printed(x, -9);
        CHECKS.process(x, 0, 1, 4, -2, 0, 0, 1, 5);
    }

    private static void sleepingParentSleepsOn() {
        SheetKernel x = Words.ran(1, Words.fork(0), Words.set(1, 9), Words.sleep(1), Words.jump(3));
        x.run(2);
        CHECKS.due("kill", true, x.kill(1));
        CHECKS.process(x, 0, 2, 3, -2, 0, 9, 1, 3);
    }

    private static void sharedSheetsStay() {
        SheetKernel x = Words.parentAndChild();
        x.kill(0);
        CHECKS.page(x, 1, 0, 1, 0, -2, 1, 1, 1);
        CHECKS.due("count(4)", 1, x.count(4));
        CHECKS.due("poke to one alone", 0, x.poke(1, 5, 5));
        CHECKS.due("count(10)", 0, x.count(10));
    }

    private static void sleeper() {
        SheetKernel x = Words.ran(1, Words.fork(0), Words.set(1, 9), Words.sleep(1), Words.jump(3));
        x.poke(0, 1, Words.jump(1));
        x.run(7);
        CHECKS.due("it SLEEPS", 2, x.process(1, 0));
        CHECKS.due("kill", true, x.kill(1));
        CHECKS.process(x, 1, 4, 3, 0, -9, 0, 0, 2);
        x.run(20);
        CHECKS.due("it does not wake", 4, x.process(1, 0));
    }
}
