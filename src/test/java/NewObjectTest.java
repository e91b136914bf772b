/** Promise 1. */
public final class NewObjectTest {
    private static final Checks CHECKS = new Checks("NewObjectTest");

    public static void main(String[] args) {
        constants();
        nothingIsThere();
        objectsAreApart();
        CHECKS.end();
    }

    private static void constants() {
        CHECKS.due("REFUSED", -1, SheetKernel.REFUSED);
        CHECKS.due("NONE", -2, SheetKernel.NONE);
        CHECKS.due("FULL", -3, SheetKernel.FULL);
    }

    private static void nothingIsThere() {
        SheetKernel x = new SheetKernel();
        CHECKS.counts(x, 0, 0, 0, 3, 0, 0, 0, 0, 0, 0, 0, 0, 0, 0, 0);
        for (int p = 0; p < 4; p++) {
            CHECKS.process(x, p, 0, 0, 0, 0, 0, 0, 0);
            CHECKS.registers(x, p, 0, 0, 0, 0);
            CHECKS.due("page", -1, x.page(p, 0, 0));
            CHECKS.due("peek", -1, x.peek(p, 0));
            CHECKS.due("poke", -1, x.poke(p, 0, 1));
            CHECKS.due("kill", false, x.kill(p));
        }
        CHECKS.printed(x);
    }

    private static void objectsAreApart() {
        SheetKernel x = Words.ran(2, Words.set(0, 5), Words.print(0));
        SheetKernel y = new SheetKernel();
        CHECKS.counts(y, 0, 0, 0, 3, 0, 0, 0, 0, 0, 0, 0, 0, 0, 0, 0);
        CHECKS.printed(y);
        CHECKS.printed(x, 5);
    }
}
