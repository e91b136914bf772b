/** Promise 7. */
public final class ProcessTest {
    private static final Checks CHECKS = new Checks("ProcessTest");

    public static void main(String[] args) {
        refused();
        notThere();
        states();
        faultsAndInstructions();
        CHECKS.end();
    }

    private static void refused() {
        SheetKernel x = new SheetKernel();
        x.spawn();
        for (int bad : new int[] {-1, 7, 8, 9, 14, 15, Integer.MIN_VALUE, Integer.MAX_VALUE}) {
            CHECKS.due("process(0, " + bad + ")", -1, x.process(0, bad));
            CHECKS.due("process(1, " + bad + ")", -1, x.process(1, bad));
        }
        for (int bad : new int[] {-1, 4, Integer.MIN_VALUE, Integer.MAX_VALUE}) {
            CHECKS.due("process(" + bad + ", 0)", -1, x.process(bad, 0));
            CHECKS.due("process(" + bad + ", 10)", -1, x.process(bad, 10));
        }
    }

    private static void notThere() {
        SheetKernel x = Words.ran(3, Words.set(3, 8), Words.print(3), Words.exit(3));
        CHECKS.process(x, 0, 0, 0, 0, 0, 0, 0, 0);
        CHECKS.registers(x, 0, 0, 0, 0, 0);
    }

    private static void states() {
        SheetKernel x = Words.ran(1, Words.fork(0), Words.fork(1), Words.set(2, 9), Words.sleep(2), Words.jump(4));
        Words.lay(x, 1, 1, Words.jump(1));
        x.run(1);
        Words.lay(x, 0, 2, Words.await(2));
        x.run(10);
        CHECKS.process(x, 0, 3, 2, -2, 0, 0, 1, 3);
        CHECKS.registers(x, 0, 1, 2, 0, 0);
        CHECKS.process(x, 1, 1, 1, 0, 0, 0, 0, 7);
        CHECKS.registers(x, 1, -1, 0, 0, 0);
        CHECKS.process(x, 2, 2, 4, 0, 0, 6, 0, 2);
        CHECKS.registers(x, 2, 1, -1, 9, 0);
        x.kill(1);
        CHECKS.process(x, 0, 1, 2, -2, 0, 0, 1, 3);
        CHECKS.process(x, 1, 4, 1, 0, -9, 0, 0, 7);
        x.kill(0);
        CHECKS.process(x, 0, 0, 0, 0, 0, 0, 0, 0);
        CHECKS.process(x, 1, 0, 0, 0, 0, 0, 0, 0);
        CHECKS.process(x, 2, 2, 4, -2, 0, 6, 0, 2);
    }

    private static void faultsAndInstructions() {
        SheetKernel x = new SheetKernel();
        x.spawn();
        x.spawn();
        x.poke(0, 0, Words.load(1, 0, 32));
        x.poke(0, 1, Words.jump(8));
        x.poke(1, 0, Words.jump(0));
        x.run(2);
        CHECKS.process(x, 0, 1, 8, -2, 0, 0, 2, 2);
        CHECKS.process(x, 1, 1, 0, -2, 0, 0, 1, 0);
        x.poke(0, 16, 1);
        x.poke(0, 17, 1);
        CHECKS.due("FAULTS by poke too", 3, x.process(0, 5));
        CHECKS.due("FAULTS of the other", 1, x.process(1, 5));
        x.run(1);
        CHECKS.due("all FAULTS", 5, x.count(7));
        CHECKS.due("it is gone", 0, x.process(0, 5));
        x.spawn();
        CHECKS.due("since it was there", 0, x.process(0, 5));
        CHECKS.due("since it was there", 0, x.process(0, 6));
    }
}
