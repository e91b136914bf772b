/** Promise 5, and how a PROCESS ENDS. */
public final class KillTest {
    private static final Checks CHECKS = new Checks("KillTest");

    public static void main(String[] args) {
        endsWithCodeMinus9();
        falseForOtherNumbers();
        falseIfNotThere();
        falseIfDead();
        aSleeperMayBeKilled();
        aWaiterMayBeKilled();
        noSheetsAnyMore();
        sharedSheetsStay();
        deadChildrenGo();
        livingChildrenHaveNoParent();
        numberZeroAsAChild();
        waitingParentIsReady();
        otherParentsStayAsTheyAre();
        waitingStrangersWaitOn();
        withoutParentNotThere();
        anOrphanLeavesAtOnce();
        CHECKS.end();
    }

    private static void endsWithCodeMinus9() {
        CHECKS.sentence(Sentence.KILL);
        SheetKernel x = Words.parentAndChild();
        CHECKS.due("kill", true, x.kill(1));
        CHECKS.process(x, 1, 4, 1, 0, -9, 0, 0, 0);
        CHECKS.due("it is not WILD", 0, x.count(13));
    }

    private static void falseForOtherNumbers() {
        CHECKS.sentence(Sentence.KILL);
        SheetKernel x = new SheetKernel();
        for (int p = 0; p < 4; p++) {
            x.spawn();
        }
        for (int bad : new int[] {-1, 4, Integer.MIN_VALUE, Integer.MAX_VALUE}) {
            CHECKS.due("kill " + bad, false, x.kill(bad));
        }
        CHECKS.due("count(1)", 4, x.count(1));
        CHECKS.due("kill 0", true, x.kill(0));
        CHECKS.due("kill 3", true, x.kill(3));
        CHECKS.due("count(1)", 2, x.count(1));
    }

    private static void falseIfNotThere() {
        CHECKS.sentence(Sentence.KILL);
        SheetKernel x = new SheetKernel();
        CHECKS.due("kill one never there", false, x.kill(0));
        x.spawn();
        CHECKS.due("kill", true, x.kill(0));
        CHECKS.due("kill one that is gone", false, x.kill(0));
    }

    private static void falseIfDead() {
        CHECKS.sentence(Sentence.KILL);
        SheetKernel x = Words.ran(1, Words.fork(0), Words.jump(1));
        x.poke(1, 1, Words.exit(1));
        x.run(4);
        CHECKS.process(x, 1, 4, 2, 0, 0, 0, 0, 1);
        CHECKS.due("kill a DEAD one", false, x.kill(1));
        CHECKS.process(x, 1, 4, 2, 0, 0, 0, 0, 1);
        CHECKS.due("count(1)", 2, x.count(1));
    }

    private static void aSleeperMayBeKilled() {
        CHECKS.sentence(Sentence.KILL);
        SheetKernel x = Words.ran(1, Words.fork(0), Words.set(1, 9), Words.sleep(1), Words.jump(3));
        x.poke(0, 1, Words.jump(1));
        x.run(7);
        CHECKS.due("it SLEEPS", 2, x.process(1, 0));
        CHECKS.due("kill", true, x.kill(1));
        CHECKS.process(x, 1, 4, 3, 0, -9, 0, 0, 2);
        x.run(20);
        CHECKS.due("it does not wake", 4, x.process(1, 0));
    }

    private static void aWaiterMayBeKilled() {
        CHECKS.sentence(Sentence.KILL);
        SheetKernel x = Words.ran(2, Words.fork(0), Words.await(1), Words.jump(2));
        CHECKS.due("it WAITS", 3, x.process(0, 0));
        CHECKS.due("kill", true, x.kill(0));
        CHECKS.due("it is gone", 0, x.process(0, 0));
        CHECKS.process(x, 1, 1, 1, -2, 0, 0, 0, 0);
    }

    private static void noSheetsAnyMore() {
        CHECKS.sentence(Sentence.ENDS);
        SheetKernel x = Words.parentAndChild();
        for (int k = 1; k < 8; k++) {
            x.poke(1, 8 * k, 1);
        }
        CHECKS.counts(x, 4, 6, 2);
        x.kill(1);
        for (int k = 0; k < 8; k++) {
            CHECKS.page(x, 1, k, 0, -2, -2, 0, 0, 0);
        }
        CHECKS.due("the SLOT of the PARENT's SHEET is left", 1, x.count(5));
        CHECKS.due("none in FRAMES is left", 0, x.count(4));
    }

    private static void sharedSheetsStay() {
        CHECKS.sentence(Sentence.ENDS);
        SheetKernel x = Words.parentAndChild();
        x.kill(0);
        CHECKS.page(x, 1, 0, 1, 0, -2, 1, 1, 1);
        CHECKS.due("count(4)", 1, x.count(4));
        CHECKS.due("peek", Words.jump(1), x.peek(1, 1));
    }

    private static void deadChildrenGo() {
        CHECKS.sentence(Sentence.ENDS);
        SheetKernel x = Words.ran(2, Words.fork(0), Words.fork(0), Words.jump(2));
        x.kill(1);
        CHECKS.due("DEAD", 4, x.process(1, 0));
        CHECKS.due("kill", true, x.kill(0));
        CHECKS.process(x, 0, 0, 0, 0, 0, 0, 0, 0);
        CHECKS.process(x, 1, 0, 0, 0, 0, 0, 0, 0);
        CHECKS.due("the other child", 1, x.process(2, 0));
        CHECKS.due("count(1)", 1, x.count(1));
    }

    private static void livingChildrenHaveNoParent() {
        CHECKS.sentence(Sentence.ENDS);
        SheetKernel x = Words.parentAndChild();
        x.kill(0);
        CHECKS.process(x, 1, 1, 1, -2, 0, 0, 0, 0);
        CHECKS.due("spawn", 0, x.spawn());
        CHECKS.due("the new 0 is no PARENT", -2, x.process(1, 2));
    }

    private static void numberZeroAsAChild() {
        CHECKS.sentence(Sentence.ENDS);
        SheetKernel dead = Words.parentOfZero();
        CHECKS.due("PARENT", 1, dead.process(0, 2));
        dead.kill(0);
        CHECKS.due("DEAD", 4, dead.process(0, 0));
        dead.kill(1);
        CHECKS.due("gone with its PARENT", 0, dead.process(0, 0));
        SheetKernel living = Words.parentOfZero();
        living.kill(1);
        CHECKS.process(living, 0, 1, 1, -2, 0, 0, 0, 0);
    }

    private static void waitingParentIsReady() {
        CHECKS.sentence(Sentence.ENDS);
        SheetKernel x = Words.ran(2, Words.fork(0), Words.await(2), Words.print(2), Words.jump(3));
        CHECKS.due("it WAITS", 3, x.process(0, 0));
        x.kill(1);
        CHECKS.process(x, 0, 1, 1, -2, 0, 0, 1, 2);
        CHECKS.due("the child is DEAD yet", 4, x.process(1, 0));
        x.run(2);
        CHECKS.due("the child is gone", 0, x.process(1, 0));
        CHECKS.printed(x, -9);
    }

    private static void otherParentsStayAsTheyAre() {
        CHECKS.sentence(Sentence.ENDS);
        SheetKernel asleep = Words.ran(3, Words.fork(0), Words.set(1, 9), Words.sleep(1), Words.jump(3));
        asleep.kill(1);
        CHECKS.process(asleep, 0, 2, 3, -2, 0, 9, 1, 3);
        SheetKernel ready = Words.parentAndChild();
        ready.kill(1);
        CHECKS.process(ready, 0, 1, 1, -2, 0, 0, 1, 1);
    }

    /** PROCESS 0 WAITS for 1, and 2 is none of its children. */
    private static void waitingStrangersWaitOn() {
        CHECKS.sentence(Sentence.ENDS);
        SheetKernel x = Words.ran(2, Words.fork(0), Words.await(2), Words.jump(2));
        x.spawn();
        CHECKS.due("kill", true, x.kill(2));
        CHECKS.due("it WAITS", 3, x.process(0, 0));
    }

    private static void withoutParentNotThere() {
        CHECKS.sentence(Sentence.ENDS);
        SheetKernel x = new SheetKernel();
        x.spawn();
        for (int k = 0; k < 8; k++) {
            x.poke(0, 8 * k, 1);
        }
        CHECKS.counts(x, 4, 6, 2, 2, 8, 2, 0, 0);
        x.kill(0);
        CHECKS.process(x, 0, 0, 0, 0, 0, 0, 0, 0);
        CHECKS.counts(x, 4, 0, 0, 2, 8, 2, 0, 0);
        CHECKS.due("count(1)", 0, x.count(1));
    }

    private static void anOrphanLeavesAtOnce() {
        CHECKS.sentence(Sentence.ENDS);
        SheetKernel x = Words.parentAndChild();
        x.kill(0);
        CHECKS.due("spawn", 0, x.spawn());
        CHECKS.due("kill", true, x.kill(1));
        CHECKS.process(x, 1, 0, 0, 0, 0, 0, 0, 0);
    }
}
