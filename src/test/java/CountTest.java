/** Promise 10. */
public final class CountTest {
    private static final Checks CHECKS = new Checks("CountTest");

    public static void main(String[] args) {
        refused();
        everyCount();
        turnOfOneNotThere();
        framesAndSlots();
        CHECKS.end();
    }

    private static void refused() {
        SheetKernel x = new SheetKernel();
        for (int bad : new int[] {-1, 14, Integer.MIN_VALUE, Integer.MAX_VALUE}) {
            CHECKS.due("count(" + bad + ")", -1, x.count(bad));
        }
    }

    private static void everyCount() {
        SheetKernel x = Words.machine(Words.fork(0), Words.store(0, 3, 8), Words.print(0), Words.set(1, 3),
            Words.sleep(1), Words.word(15, 0, 0, 0));
        CHECKS.counts(x, 0, 0, 1, 3, 0, 1, 0, 0, 1, 0, 0, 0, 0, 0, 0);
        x.run(4);
        CHECKS.counts(x, 0, 4, 2, 0, 4, 2, 0, 0, 2, 0, 0, 0, 0, 1, 0);
        x.run(4);
        CHECKS.counts(x, 0, 8, 2, 1, 4, 3, 0, 0, 3, 0, 0, 0, 0, 2, 0);
        x.poke(1, 7, 1);
        CHECKS.counts(x, 0, 8, 2, 1, 4, 4, 0, 0, 3, 0, 0, 1, 0, 2, 0);
        x.run(1);
        CHECKS.counts(x, 0, 9, 2, 0, 1, 4, 0, 0, 3, 0, 0, 1, 0, 2, 0);
        x.run(2);
        CHECKS.counts(x, 0, 11, 2, 1, 1, 2, 0, 0, 3, 0, 0, 1, 1, 2, 1);
        x.run(1);
        CHECKS.counts(x, 0, 12, 0, 0, 1, 0, 0, 0, 3, 0, 0, 1, 1, 2, 2);
    }

    private static void turnOfOneNotThere() {
        SheetKernel x = new SheetKernel();
        x.spawn();
        x.spawn();
        x.kill(0);
        x.run(3);
        CHECKS.counts(x, 0, 3, 0, 1, 1);
        CHECKS.due("IDLE", 2, x.count(11));
    }

    /** All 32 PAGES with SHEETS of their own: every one that is not in a FRAME has a SLOT. */
    private static void framesAndSlots() {
        SheetKernel x = new SheetKernel();
        for (int p = 0; p < 4; p++) {
            x.spawn();
            for (int k = 0; k < 8; k++) {
                CHECKS.due("poke", 1, x.poke(p, 8 * k, 10 * p + k));
            }
        }
        CHECKS.counts(x, 4, 6, 26, 2, 32, 26, 0, 0);
        for (int p = 0; p < 4; p++) {
            for (int k = 0; k < 8; k++) {
                CHECKS.due("poke", 1, x.poke(p, 8 * k + 1, 100 + 10 * p + k));
            }
        }
        CHECKS.counts(x, 4, 6, 32, 4, 64, 58, 32, 0);
        for (int p = 0; p < 4; p++) {
            for (int k = 0; k < 8; k++) {
                CHECKS.due("peek", 10 * p + k, x.peek(p, 8 * k));
                CHECKS.due("peek", 100 + 10 * p + k, x.peek(p, 8 * k + 1));
            }
        }
        x.kill(0);
        x.kill(3);
        CHECKS.counts(x, 4, 0, 16, 4, 64, 58, 32, 0);
    }
}
