/** Promise 2. */
public final class SpawnTest {
    private static final Checks CHECKS = new Checks("SpawnTest");

    public static void main(String[] args) {
        leastFirst();
        leastOfThoseThatWent();
        aDeadOneIsThere();
        beginsReadyWithNothing();
        beginsAnew();
        beginsAnewAfterADeadOne();
        sheetsBeginAnew();
        fullWithFour();
        fullWithDeadOnes();
        fullChangesNothing();
        CHECKS.end();
    }

    private static void leastFirst() {
        CHECKS.sentence(Sentence.SPAWN);
        SheetKernel x = new SheetKernel();
        for (int p = 0; p < 4; p++) {
            CHECKS.due("spawn", p, x.spawn());
            CHECKS.due("count(1)", p + 1, x.count(1));
        }
    }

    private static void leastOfThoseThatWent() {
        CHECKS.sentence(Sentence.SPAWN);
        SheetKernel x = new SheetKernel();
        for (int p = 0; p < 4; p++) {
            x.spawn();
        }
        x.kill(3);
        x.kill(1);
        CHECKS.due("spawn", 1, x.spawn());
        CHECKS.due("spawn", 3, x.spawn());
        x.kill(0);
        CHECKS.due("spawn", 0, x.spawn());
    }

    private static void aDeadOneIsThere() {
        CHECKS.sentence(Sentence.SPAWN);
        SheetKernel x = Words.parentAndChild();
        x.kill(1);
        CHECKS.due("spawn", 2, x.spawn());
        CHECKS.due("process(1, 0)", 4, x.process(1, 0));
    }

    private static void beginsReadyWithNothing() {
        CHECKS.sentence(Sentence.SPAWN);
        SheetKernel x = new SheetKernel();
        for (int p = 0; p < 4; p++) {
            x.spawn();
            CHECKS.process(x, p, 1, 0, -2, 0, 0, 0, 0);
            CHECKS.registers(x, p, 0, 0, 0, 0);
            for (int k = 0; k < 8; k++) {
                CHECKS.page(x, p, k, 0, -2, -2, 0, 0, 0);
            }
        }
        CHECKS.due("count(4)", 0, x.count(4));
    }

    private static void beginsAnew() {
        CHECKS.sentence(Sentence.SPAWN);
        SheetKernel x = Words.ran(3, Words.set(1, 9), Words.set(3, 300), Words.sleep(3));
        CHECKS.process(x, 0, 2, 3, -2, 0, 300, 1, 3);
        x.kill(0);
        CHECKS.due("spawn", 0, x.spawn());
        CHECKS.process(x, 0, 1, 0, -2, 0, 0, 0, 0);
        CHECKS.registers(x, 0, 0, 0, 0, 0);
        CHECKS.due("peek", 0, x.peek(0, 0));
        CHECKS.page(x, 0, 0, 0, -2, -2, 0, 0, 0);
    }

    private static void beginsAnewAfterADeadOne() {
        CHECKS.sentence(Sentence.SPAWN);
        SheetKernel x = Words.parentAndChild();
        x.kill(1);
        CHECKS.due("CODE", -9, x.process(1, 3));
        x.kill(0);
        x.spawn();
        CHECKS.due("spawn", 1, x.spawn());
        CHECKS.process(x, 1, 1, 0, -2, 0, 0, 0, 0);
        CHECKS.registers(x, 1, 0, 0, 0, 0);
    }

    /** SHEETS of one that is gone leave nothing behind for those that come after them. */
    private static void sheetsBeginAnew() {
        CHECKS.sentence(Sentence.SPAWN);
        SheetKernel x = new SheetKernel();
        x.spawn();
        for (int a = 0; a < 64; a++) {
            x.poke(0, a, 9);
        }
        x.kill(0);
        x.spawn();
        Words.lay(x, 0, 0, Words.load(1, 0, 8), Words.load(2, 0, 57), Words.jump(2));
        x.run(3);
        CHECKS.registers(x, 0, 0, 0, 0, 0);
        CHECKS.due("peek of a SHEET used before", 0, x.peek(0, 7));
        CHECKS.page(x, 0, 0, 1, 0, -2, 1, 1, 1);
        CHECKS.page(x, 0, 1, 1, 1, -2, 1, 0, 1);
        CHECKS.page(x, 0, 7, 1, 2, -2, 1, 0, 1);
        CHECKS.due("count(9)", 0, x.count(9));
    }

    private static void fullWithFour() {
        CHECKS.sentence(Sentence.SPAWN_FULL);
        SheetKernel x = new SheetKernel();
        for (int p = 0; p < 4; p++) {
            CHECKS.due("spawn", p, x.spawn());
        }
        CHECKS.due("spawn", -3, x.spawn());
        CHECKS.due("spawn", -3, x.spawn());
        x.kill(2);
        CHECKS.due("spawn", 2, x.spawn());
        CHECKS.due("spawn", -3, x.spawn());
    }

    /** PROCESS 0 lives, its children 1 to 3 are DEAD. */
    private static void fullWithDeadOnes() {
        CHECKS.sentence(Sentence.SPAWN_FULL);
        SheetKernel x = Words.ran(3, Words.fork(0), Words.fork(0), Words.fork(0), Words.jump(3));
        for (int p = 1; p < 4; p++) {
            x.kill(p);
        }
        CHECKS.due("spawn", -3, x.spawn());
        CHECKS.counts(x, 1, 4);
        x.kill(0);
        CHECKS.due("spawn", 0, x.spawn());
    }

    private static void fullChangesNothing() {
        CHECKS.sentence(Sentence.SPAWN_FULL);
        SheetKernel x = Words.busy();
        SheetKernel y = Words.busy();
        x.spawn();
        y.spawn();
        CHECKS.due("spawn", -3, y.spawn());
        CHECKS.due("spawn", -3, y.spawn());
        CHECKS.alike("after FULL", x, y);
    }
}
