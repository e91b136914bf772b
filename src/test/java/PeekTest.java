/** Promise 4. */
public final class PeekTest {
    private static final Checks CHECKS = new Checks("PeekTest");

    public static void main(String[] args) {
        zeroWithoutASheet();
        reachesNothing();
        sharedAndApart();
        onDiskWithoutSlot();
        refusedAddresses();
        refusedNumbers();
        refusedIfNotThereOrDead();
        anyIntOtherwise();
        CHECKS.end();
    }

    private static void zeroWithoutASheet() {
        CHECKS.sentence(Sentence.PEEK);
        SheetKernel x = new SheetKernel();
        x.spawn();
        for (int a = 0; a < 64; a++) {
            CHECKS.due("peek " + a, 0, x.peek(0, a));
        }
        CHECKS.counts(x, 4, 0, 0, 0, 0, 0, 0, 0);
        for (int k = 0; k < 8; k++) {
            CHECKS.due("no SHEET came", 0, x.page(0, k, 0));
        }
    }

    private static void reachesNothing() {
        CHECKS.sentence(Sentence.PEEK);
        SheetKernel x = Words.fullFrames();
        x.poke(0, 48, 106);
        CHECKS.due("peek on the disk", 100, x.peek(0, 0));
        CHECKS.due("peek in a FRAME", 101, x.peek(0, 8));
        CHECKS.page(x, 0, 0, 2, -2, 0, 0, 0, 1);
        CHECKS.page(x, 0, 1, 1, 1, -2, 0, 1, 1);
        CHECKS.counts(x, 4, 6, 1, 1, 7, 1, 0, 0);
        CHECKS.due("process(0, 5)", 7, x.process(0, 5));
    }

    private static void sharedAndApart() {
        CHECKS.sentence(Sentence.PEEK);
        SheetKernel x = Words.parentAndChild();
        CHECKS.due("peek of both", Words.jump(1), x.peek(0, 1));
        CHECKS.due("peek of both", Words.jump(1), x.peek(1, 1));
        x.poke(0, 1, 77);
        CHECKS.due("peek of one", 77, x.peek(0, 1));
        CHECKS.due("peek of the other", Words.jump(1), x.peek(1, 1));
    }

    /** PAGE 1 was read only and goes out without a SLOT. */
    private static void onDiskWithoutSlot() {
        CHECKS.sentence(Sentence.PEEK);
        SheetKernel x = Words.ran(1, Words.load(1, 2, 8), Words.jump(1));
        for (int k = 2; k < 8; k++) {
            x.poke(0, 8 * k, 5);
        }
        CHECKS.page(x, 0, 1, 2, -2, -2, 0, 0, 1);
        for (int a = 8; a < 16; a++) {
            CHECKS.due("peek " + a, 0, x.peek(0, a));
        }
    }

    private static void refusedAddresses() {
        CHECKS.sentence(Sentence.PEEK_REFUSED);
        SheetKernel x = new SheetKernel();
        x.spawn();
        for (int bad : new int[] {-1, 64, -64, 128, Integer.MIN_VALUE, Integer.MAX_VALUE}) {
            CHECKS.due("peek at " + bad, -1, x.peek(0, bad));
        }
        CHECKS.due("peek at 0", 0, x.peek(0, 0));
        CHECKS.due("peek at 63", 0, x.peek(0, 63));
    }

    private static void refusedNumbers() {
        CHECKS.sentence(Sentence.PEEK_REFUSED);
        SheetKernel x = new SheetKernel();
        for (int p = 0; p < 4; p++) {
            x.spawn();
        }
        for (int bad : new int[] {-1, 4, Integer.MIN_VALUE, Integer.MAX_VALUE}) {
            CHECKS.due("peek of " + bad, -1, x.peek(bad, 0));
        }
        CHECKS.due("peek of 0", 0, x.peek(0, 0));
        CHECKS.due("peek of 3", 0, x.peek(3, 0));
    }

    private static void refusedIfNotThereOrDead() {
        CHECKS.sentence(Sentence.PEEK_REFUSED);
        SheetKernel x = Words.parentAndChild();
        CHECKS.due("peek of one not there", -1, x.peek(2, 0));
        CHECKS.due("peek of one that lives", Words.fork(0), x.peek(1, 0));
        x.kill(1);
        CHECKS.due("peek of a DEAD one", -1, x.peek(1, 0));
        x.kill(0);
        CHECKS.due("peek of one that is gone", -1, x.peek(0, 0));
    }

    private static void anyIntOtherwise() {
        CHECKS.sentence(Sentence.PEEK_REFUSED);
        SheetKernel x = new SheetKernel();
        x.spawn();
        for (int w : new int[] {-1, -2, -3, 0, Integer.MIN_VALUE, Integer.MAX_VALUE}) {
            x.poke(0, 63, w);
            CHECKS.due("peek", w, x.peek(0, 63));
        }
    }
}
