/** Promise 9. */
public final class PrintedTest {
    private static final Checks CHECKS = new Checks("PrintedTest");

    public static void main(String[] args) {
        inOrder();
        firstFortyAreKept();
        CHECKS.end();
    }

    private static void inOrder() {
        SheetKernel x = Words.ran(6, Words.set(0, 5), Words.set(1, -6), Words.print(1), Words.print(0),
            Words.print(2), Words.print(1));
        CHECKS.printed(x, -6, 5, 0, -6);
        for (int bad : new int[] {-1, 4, 39, 40, Integer.MIN_VALUE, Integer.MAX_VALUE}) {
            CHECKS.due("printed(" + bad + ")", 0, x.printed(bad));
        }
        x.kill(0);
        CHECKS.printed(x, -6, 5, 0, -6);
    }

    private static void firstFortyAreKept() {
        SheetKernel x = Words.machine(Words.set(1, 1), Words.add(0, 1), Words.print(0), Words.jump(1));
        x.run(40);
        x.run(40);
        CHECKS.due("count(12)", 26, x.count(12));
        x.run(40);
        CHECKS.due("count(12)", 40, x.count(12));
        x.run(3);
        CHECKS.due("count(12)", 41, x.count(12));
        x.run(40);
        CHECKS.due("count(12)", 54, x.count(12));
        for (int k = 0; k < 40; k++) {
            CHECKS.due("printed(" + k + ")", k + 1, x.printed(k));
        }
        for (int k = 40; k < 60; k++) {
            CHECKS.due("printed(" + k + ")", 0, x.printed(k));
        }
    }
}
