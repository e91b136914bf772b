/** Promise 9. */
public final class PrintedTest {
    private static final Checks CHECKS = new Checks("PrintedTest");

    public static void main(String[] args) {
        inOrder();
        zeroIfThereIsNone();
        firstFortyAreKept();
        CHECKS.end();
    }

    /** Values stay when those that printed them are gone. */
    private static void inOrder() {
        CHECKS.sentence(Sentence.PRINTED);
        SheetKernel x = Words.ran(6, Words.set(0, 5), Words.set(1, -6), Words.print(1), Words.print(0),
            Words.print(2), Words.print(1));
        CHECKS.printed(x, -6, 5, 0, -6);
        x.kill(0);
        CHECKS.printed(x, -6, 5, 0, -6);
        x.spawn();
        Words.lay(x, 0, 0, Words.set(0, 9), Words.print(0));
        x.run(2);
        CHECKS.printed(x, -6, 5, 0, -6, 9);
    }

    private static void zeroIfThereIsNone() {
        CHECKS.sentence(Sentence.PRINTED);
        SheetKernel x = new SheetKernel();
        CHECKS.due("printed(0)", 0, x.printed(0));
        SheetKernel y = Words.ran(2, Words.set(0, 5), Words.print(0));
        CHECKS.due("printed(0)", 5, y.printed(0));
        for (int bad : new int[] {-1, 1, 39, 40, 41, Integer.MIN_VALUE, Integer.MAX_VALUE}) {
            CHECKS.due("printed(" + bad + ")", 0, y.printed(bad));
        }
    }

    /** Three TICKS a value; the 40th is printed at TICK 120. */
    private static void firstFortyAreKept() {
        CHECKS.sentence(Sentence.PRINTED);
        SheetKernel x = Words.machine(Words.set(1, 1), Words.add(0, 1), Words.print(0), Words.jump(1));
        x.run(40);
        x.run(40);
        x.run(39);
        CHECKS.due("count(12)", 39, x.count(12));
        CHECKS.due("printed(38)", 39, x.printed(38));
        CHECKS.due("printed(39)", 0, x.printed(39));
        x.run(1);
        CHECKS.due("count(12)", 40, x.count(12));
        CHECKS.due("printed(39)", 40, x.printed(39));
        CHECKS.due("printed(40)", 0, x.printed(40));
        x.run(3);
        CHECKS.due("count(12)", 41, x.count(12));
        CHECKS.due("printed(40)", 0, x.printed(40));
        x.run(40);
        CHECKS.due("count(12)", 54, x.count(12));
        for (int k = 0; k < 60; k++) {
            CHECKS.due("printed(" + k + ")", k < 40 ? k + 1 : 0, x.printed(k));
        }
    }
}
