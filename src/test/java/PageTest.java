/** Promise 8. */
public final class PageTest {
    private static final Checks CHECKS = new Checks("PageTest");

    public static void main(String[] args) {
        refused();
        withoutSheet();
        inFrameAndOnDisk();
        ofMany();
        leastFrameAndSlot();
        CHECKS.end();
    }

    private static void refused() {
        SheetKernel x = new SheetKernel();
        x.spawn();
        x.poke(0, 0, 1);
        for (int bad : new int[] {-1, Integer.MIN_VALUE, Integer.MAX_VALUE}) {
            CHECKS.due("page(" + bad + ", 0, 0)", -1, x.page(bad, 0, 0));
            CHECKS.due("page(0, " + bad + ", 0)", -1, x.page(0, bad, 0));
            CHECKS.due("page(0, 0, " + bad + ")", -1, x.page(0, 0, bad));
        }
        CHECKS.due("page(4, 0, 0)", -1, x.page(4, 0, 0));
        CHECKS.due("page(0, 8, 0)", -1, x.page(0, 8, 0));
        CHECKS.due("page(0, 0, 6)", -1, x.page(0, 0, 6));
        CHECKS.due("page(0, 1, 6)", -1, x.page(0, 1, 6));
        for (int what = 0; what < 6; what++) {
            CHECKS.due("page(1, 0, " + what + ")", -1, x.page(1, 0, what));
        }
    }

    private static void withoutSheet() {
        SheetKernel x = Words.parentAndChild();
        x.kill(1);
        for (int k = 0; k < 8; k++) {
            CHECKS.page(x, 1, k, 0, -2, -2, 0, 0, 0);
        }
        CHECKS.page(x, 0, 7, 0, -2, -2, 0, 0, 0);
    }

    private static void inFrameAndOnDisk() {
        SheetKernel x = new SheetKernel();
        x.spawn();
        for (int k = 7; k >= 0; k--) {
            x.poke(0, 8 * k, k);
        }
        CHECKS.page(x, 0, 7, 2, -2, 0, 0, 0, 1);
        CHECKS.page(x, 0, 6, 2, -2, 1, 0, 0, 1);
        CHECKS.page(x, 0, 5, 1, 2, -2, 0, 1, 1);
        CHECKS.page(x, 0, 2, 1, 5, -2, 0, 1, 1);
        CHECKS.page(x, 0, 1, 1, 0, -2, 1, 1, 1);
        CHECKS.page(x, 0, 0, 1, 1, -2, 1, 1, 1);
        x.run(1);
        CHECKS.due("EXIT", 0, x.process(0, 0));
        SheetKernel y = Words.ran(1, Words.load(0, 0, 60));
        CHECKS.page(y, 0, 7, 1, 1, -2, 1, 0, 1);
    }

    private static void ofMany() {
        SheetKernel x = Words.machine(Words.fork(0), Words.fork(0), Words.jump(2));
        x.run(16);
        for (int p = 0; p < 4; p++) {
            CHECKS.page(x, p, 0, 1, 0, -2, 1, 1, 4);
        }
        x.poke(3, 0, 1);
        CHECKS.page(x, 2, 0, 1, 0, -2, 1, 1, 3);
        CHECKS.page(x, 3, 0, 1, 1, -2, 1, 1, 1);
        x.kill(1);
        CHECKS.page(x, 2, 0, 1, 0, -2, 1, 1, 2);
    }

    private static void leastFrameAndSlot() {
        SheetKernel x = new SheetKernel();
        x.spawn();
        x.spawn();
        x.spawn();
        x.poke(0, 0, 1);
        x.poke(1, 0, 1);
        x.poke(0, 8, 1);
        x.poke(2, 0, 1);
        x.kill(0);
        x.poke(2, 8, 1);
        x.poke(2, 16, 1);
        x.poke(2, 24, 1);
        CHECKS.due("FRAME", 0, x.page(2, 1, 1));
        CHECKS.due("FRAME", 2, x.page(2, 2, 1));
        CHECKS.due("FRAME", 4, x.page(2, 3, 1));
        CHECKS.due("HAND", 0, x.count(6));
        for (int k = 1; k < 8; k++) {
            x.poke(1, 8 * k, 1);
        }
        CHECKS.counts(x, 4, 6, 6, 0, 14, 6, 0, 0);
        CHECKS.due("SLOT", 0, x.page(2, 1, 2));
        CHECKS.due("SLOT", 1, x.page(1, 0, 2));
        x.kill(2);
        x.spawn();
        for (int k = 0; k < 7; k++) {
            x.poke(0, 8 * k, 1);
        }
        CHECKS.due("least free SLOT", 0, x.page(1, 2, 2));
    }
}
