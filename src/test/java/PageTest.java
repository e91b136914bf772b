/** Promise 8. */
public final class PageTest {
    private static final Checks CHECKS = new Checks("PageTest");

    public static void main(String[] args) {
        refusedNumbers();
        refusedPages();
        refusedWhats();
        refusedIfNotThere();
        aDeadOneIsThere();
        withoutSheet();
        inFrameAndOnDisk();
        ofMany();
        CHECKS.end();
    }

    private static void refusedNumbers() {
        CHECKS.sentence(Sentence.PAGE_REFUSED);
        SheetKernel x = new SheetKernel();
        for (int p = 0; p < 4; p++) {
            x.spawn();
        }
        for (int bad : new int[] {-1, 4, Integer.MIN_VALUE, Integer.MAX_VALUE}) {
            for (int what = 0; what < 6; what++) {
                CHECKS.due("page(" + bad + ", 0, " + what + ")", -1, x.page(bad, 0, what));
            }
        }
        CHECKS.due("page(0, 0, 0)", 0, x.page(0, 0, 0));
        CHECKS.due("page(3, 0, 0)", 0, x.page(3, 0, 0));
    }

    private static void refusedPages() {
        CHECKS.sentence(Sentence.PAGE_REFUSED);
        SheetKernel x = Words.fullFrames();
        for (int bad : new int[] {-1, 8, Integer.MIN_VALUE, Integer.MAX_VALUE}) {
            for (int what = 0; what < 6; what++) {
                CHECKS.due("page(0, " + bad + ", " + what + ")", -1, x.page(0, bad, what));
            }
        }
        CHECKS.due("page(0, 0, 0)", 1, x.page(0, 0, 0));
        CHECKS.due("page(0, 7, 0)", 0, x.page(0, 7, 0));
    }

    private static void refusedWhats() {
        CHECKS.sentence(Sentence.PAGE_REFUSED);
        SheetKernel x = Words.fullFrames();
        for (int bad : new int[] {-1, 6, 7, Integer.MIN_VALUE, Integer.MAX_VALUE}) {
            CHECKS.due("page(0, 0, " + bad + ")", -1, x.page(0, 0, bad));
            CHECKS.due("page(0, 7, " + bad + ") without SHEET", -1, x.page(0, 7, bad));
        }
        CHECKS.due("page(0, 0, 5)", 1, x.page(0, 0, 5));
    }

    private static void refusedIfNotThere() {
        CHECKS.sentence(Sentence.PAGE_REFUSED);
        SheetKernel x = Words.fullFrames();
        for (int what = 0; what < 6; what++) {
            CHECKS.due("page(1, 0, " + what + ")", -1, x.page(1, 0, what));
        }
        x.kill(0);
        for (int what = 0; what < 6; what++) {
            CHECKS.due("page(0, 0, " + what + ")", -1, x.page(0, 0, what));
        }
    }

    private static void aDeadOneIsThere() {
        CHECKS.sentence(Sentence.PAGE_REFUSED);
        SheetKernel x = Words.parentAndChild();
        x.kill(1);
        for (int k = 0; k < 8; k++) {
            CHECKS.page(x, 1, k, 0, -2, -2, 0, 0, 0);
        }
        CHECKS.due("page(1, 8, 0)", -1, x.page(1, 8, 0));
    }

    private static void withoutSheet() {
        CHECKS.sentence(Sentence.PAGE);
        SheetKernel x = Words.fullFrames();
        CHECKS.page(x, 0, 6, 0, -2, -2, 0, 0, 0);
        CHECKS.page(x, 0, 7, 0, -2, -2, 0, 0, 0);
    }

    private static void inFrameAndOnDisk() {
        CHECKS.sentence(Sentence.PAGE);
        SheetKernel x = new SheetKernel();
        x.spawn();
        for (int k = 7; k >= 0; k--) {
            x.poke(0, 8 * k, k);
        }
        CHECKS.page(x, 0, 7, 2, -2, 0, 0, 0, 1);
        CHECKS.page(x, 0, 6, 2, -2, 1, 0, 0, 1);
        CHECKS.page(x, 0, 5, 1, 2, -2, 0, 1, 1);
        CHECKS.page(x, 0, 2, 1, 5, -2, 0, 1, 1);
        CHECKS.page(x, 0, 1, 1, 0, -2, 1, 1, 1);
        CHECKS.page(x, 0, 0, 1, 1, -2, 1, 1, 1);
        SheetKernel y = Words.ran(1, Words.load(0, 0, 60));
        CHECKS.page(y, 0, 7, 1, 1, -2, 1, 0, 1);
    }

    private static void ofMany() {
        CHECKS.sentence(Sentence.PAGE);
        SheetKernel x = Words.machine(Words.fork(0), Words.fork(0), Words.jump(2));
        x.run(16);
        for (int p = 0; p < 4; p++) {
            CHECKS.page(x, p, 0, 1, 0, -2, 1, 1, 4);
        }
        x.poke(3, 0, 1);
        CHECKS.page(x, 2, 0, 1, 0, -2, 1, 1, 3);
        CHECKS.page(x, 3, 0, 1, 1, -2, 1, 1, 1);
        x.kill(1);
        CHECKS.page(x, 2, 0, 1, 0, -2, 1, 1, 2);
    }
}
