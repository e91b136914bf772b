/** Promise 3, and how a PAGE is REACHED to write. */
public final class PokeTest {
    private static final Checks CHECKS = new Checks("PokeTest");

    public static void main(String[] args) {
        everyAddress();
        refused();
        theHand();
        aSecondChance();
        keepsItsSlot();
        copies();
        copyFromDisk();
        copySendsItsSheetOut();
        CHECKS.end();
    }

    private static void everyAddress() {
        SheetKernel x = new SheetKernel();
        x.spawn();
        for (int a = 0; a < 64; a++) {
            CHECKS.due("poke " + a, a % 8 == 0 ? 1 : 0, x.poke(0, a, 1000 - a));
        }
        for (int a = 0; a < 64; a++) {
            CHECKS.due("peek " + a, 1000 - a, x.peek(0, a));
        }
        CHECKS.due("poke", 1, x.poke(0, 0, Integer.MIN_VALUE));
        CHECKS.due("peek", Integer.MIN_VALUE, x.peek(0, 0));
        CHECKS.due("process(0, 5)", 9, x.process(0, 5));
    }

    private static void refused() {
        SheetKernel x = Words.parentAndChild();
        x.kill(1);
        for (int bad : new int[] {-1, 64, Integer.MIN_VALUE, Integer.MAX_VALUE}) {
            CHECKS.due("poke at " + bad, -1, x.poke(0, bad, 1));
            CHECKS.due("poke of " + bad, -1, x.poke(bad, 0, 1));
        }
        CHECKS.due("poke of 4", -1, x.poke(4, 0, 1));
        CHECKS.due("poke of one not there", -1, x.poke(2, 0, 1));
        CHECKS.due("poke of a DEAD one", -1, x.poke(1, 0, 1));
        CHECKS.counts(x, 4, 1, 0, 0, 1, 0, 0, 0);
        CHECKS.due("process(0, 5)", 1, x.process(0, 5));
    }

    /** PROCESS 0 with PAGES 0 to 5 in FRAMES 0 to 5, all USED and CHANGED. */
    private static SheetKernel fullFrames() {
        SheetKernel x = new SheetKernel();
        x.spawn();
        for (int k = 0; k < 6; k++) {
            x.poke(0, 8 * k, 100 + k);
        }
        return x;
    }

    private static void theHand() {
        SheetKernel x = fullFrames();
        CHECKS.counts(x, 4, 6, 0, 0, 6, 0, 0, 0);
        CHECKS.page(x, 0, 5, 1, 5, -2, 1, 1, 1);
        CHECKS.due("poke", 1, x.poke(0, 50, 7));
        CHECKS.counts(x, 4, 6, 1, 1, 7, 1, 0, 0);
        CHECKS.page(x, 0, 0, 2, -2, 0, 0, 0, 1);
        CHECKS.page(x, 0, 6, 1, 0, -2, 1, 1, 1);
        for (int k = 1; k < 6; k++) {
            CHECKS.page(x, 0, k, 1, k, -2, 0, 1, 1);
        }
        CHECKS.due("peek on disk", 100, x.peek(0, 0));
        CHECKS.page(x, 0, 0, 2, -2, 0, 0, 0, 1);
    }

    private static void aSecondChance() {
        SheetKernel x = fullFrames();
        x.poke(0, 48, 106);
        CHECKS.due("poke in a FRAME", 0, x.poke(0, 9, 1));
        CHECKS.page(x, 0, 1, 1, 1, -2, 1, 1, 1);
        CHECKS.due("poke", 1, x.poke(0, 56, 107));
        CHECKS.page(x, 0, 1, 1, 1, -2, 0, 1, 1);
        CHECKS.page(x, 0, 2, 2, -2, 1, 0, 0, 1);
        CHECKS.page(x, 0, 7, 1, 2, -2, 1, 1, 1);
        CHECKS.counts(x, 4, 6, 2, 3, 8, 2, 0, 0);
    }

    private static void keepsItsSlot() {
        SheetKernel x = fullFrames();
        x.poke(0, 48, 106);
        CHECKS.due("poke from disk", 1, x.poke(0, 1, 5));
        CHECKS.page(x, 0, 0, 1, 1, 0, 1, 1, 1);
        CHECKS.due("peek", 100, x.peek(0, 0));
        CHECKS.due("peek", 5, x.peek(0, 1));
        CHECKS.counts(x, 4, 6, 2, 2, 8, 2, 1, 0);
        for (int k = 1; k < 6; k++) {
            CHECKS.due("poke from disk", 1, x.poke(0, 8 * k, 200 + k));
        }
        x.poke(0, 56, 1);
        CHECKS.page(x, 0, 0, 2, -2, 0, 0, 0, 1);
        CHECKS.due("peek", 5, x.peek(0, 1));
    }

    private static void copies() {
        SheetKernel x = Words.parentAndChild();
        CHECKS.page(x, 0, 0, 1, 0, -2, 1, 1, 2);
        CHECKS.due("poke to both", 0, x.poke(1, 7, 3));
        CHECKS.page(x, 1, 0, 1, 1, -2, 1, 1, 1);
        CHECKS.page(x, 0, 0, 1, 0, -2, 1, 1, 1);
        CHECKS.counts(x, 4, 2, 0, 0, 1, 0, 0, 1);
        CHECKS.due("peek", 3, x.peek(1, 7));
        CHECKS.due("peek", 0, x.peek(0, 7));
        CHECKS.due("peek", Words.jump(1), x.peek(1, 1));
        CHECKS.due("poke to one", 0, x.poke(0, 7, 4));
        CHECKS.due("count(10)", 1, x.count(10));
        CHECKS.due("process(1, 5)", 0, x.process(1, 5));
    }

    private static void copyFromDisk() {
        SheetKernel x = Words.parentAndChild();
        for (int k = 1; k < 7; k++) {
            x.poke(0, 8 * k, k);
        }
        CHECKS.page(x, 1, 0, 2, -2, 0, 0, 0, 2);
        CHECKS.counts(x, 4, 6, 1, 1, 7, 1, 0, 0);
        CHECKS.due("poke to both on disk", 1, x.poke(1, 7, 3));
        CHECKS.counts(x, 4, 6, 3, 3, 8, 3, 1, 1);
        CHECKS.page(x, 0, 0, 1, 1, 0, 0, 0, 1);
        CHECKS.page(x, 1, 0, 1, 2, -2, 1, 1, 1);
        CHECKS.page(x, 0, 1, 2, -2, 1, 0, 0, 1);
        CHECKS.page(x, 0, 2, 2, -2, 2, 0, 0, 1);
        CHECKS.process(x, 1, 1, 1, 0, 0, 0, 1, 0);
        CHECKS.due("process(0, 5)", 7, x.process(0, 5));
    }

    /** A SHEET brought in only to be copied is not USED, so that its COPY may take its FRAME. */
    private static void copySendsItsSheetOut() {
        SheetKernel x = Words.parentAndChild();
        for (int k = 1; k < 7; k++) {
            x.poke(0, 8 * k, k);
        }
        for (int k = 2; k < 7; k++) {
            x.poke(0, 8 * k, 10 + k);
        }
        CHECKS.due("poke to both on disk", 1, x.poke(1, 7, 3));
        CHECKS.page(x, 0, 0, 2, -2, 0, 0, 0, 1);
        CHECKS.page(x, 1, 0, 1, 1, -2, 1, 1, 1);
        CHECKS.counts(x, 4, 6, 2, 2, 8, 2, 1, 1);
        CHECKS.due("peek", Words.fork(0), x.peek(1, 0));
        CHECKS.due("peek", 3, x.peek(1, 7));
        CHECKS.due("peek", 0, x.peek(0, 7));
    }
}
