/** Promise 4. */
public final class PeekTest {
    private static final Checks CHECKS = new Checks("PeekTest");

    public static void main(String[] args) {
        reachesNothing();
        refused();
        sharedAndApart();
        CHECKS.end();
    }

    private static void reachesNothing() {
        SheetKernel x = new SheetKernel();
        x.spawn();
        for (int a = 0; a < 64; a++) {
            CHECKS.due("peek without a SHEET", 0, x.peek(0, a));
        }
        CHECKS.counts(x, 4, 0, 0, 0, 0, 0, 0, 0);
        CHECKS.due("page(0, 0, 0)", 0, x.page(0, 0, 0));
        for (int k = 0; k < 7; k++) {
            x.poke(0, 8 * k + k, -k);
        }
        CHECKS.page(x, 0, 0, 2, -2, 0, 0, 0, 1);
        CHECKS.page(x, 0, 1, 1, 1, -2, 0, 1, 1);
        CHECKS.due("peek on disk", 0, x.peek(0, 0));
        CHECKS.due("peek in a FRAME", -1, x.peek(0, 9));
        CHECKS.due("peek in a FRAME", -2, x.peek(0, 18));
        CHECKS.due("peek in a FRAME", -3, x.peek(0, 27));
        CHECKS.page(x, 0, 0, 2, -2, 0, 0, 0, 1);
        CHECKS.page(x, 0, 1, 1, 1, -2, 0, 1, 1);
        CHECKS.counts(x, 4, 6, 1, 1, 7, 1, 0, 0);
    }

    private static void refused() {
        SheetKernel x = Words.parentAndChild();
        x.kill(1);
        for (int bad : new int[] {-1, 64, Integer.MIN_VALUE, Integer.MAX_VALUE}) {
            CHECKS.due("peek at " + bad, -1, x.peek(0, bad));
            CHECKS.due("peek of " + bad, -1, x.peek(bad, 0));
        }
        CHECKS.due("peek of 4", -1, x.peek(4, 0));
        CHECKS.due("peek of one not there", -1, x.peek(2, 0));
        CHECKS.due("peek of a DEAD one", -1, x.peek(1, 0));
        CHECKS.due("peek at 63", 0, x.peek(0, 63));
    }

    private static void sharedAndApart() {
        SheetKernel x = Words.parentAndChild();
        CHECKS.due("peek of both", Words.jump(1), x.peek(0, 1));
        CHECKS.due("peek of both", Words.jump(1), x.peek(1, 1));
        x.poke(0, 1, 77);
        CHECKS.due("peek of one", 77, x.peek(0, 1));
        CHECKS.due("peek of the other", Words.jump(1), x.peek(1, 1));
    }
}
