/** Promise 7. */
public final class ProcessTest {
    private static final Checks CHECKS = new Checks("ProcessTest");

    public static void main(String[] args) {
        refusedWhats();
        refusedNumbers();
        zeroIfNotThere();
        states();
        everyWhat();
        codeOfTheLiving();
        sleepOfTheWakeful();
        faultsSinceItWasThere();
        instructionsBegun();
        registersApart();
        CHECKS.end();
    }

    private static void refusedWhats() {
        CHECKS.sentence(Sentence.PROCESS_REFUSED);
        SheetKernel x = new SheetKernel();
        x.spawn();
        for (int bad : new int[] {-1, 7, 8, 9, 14, 15, Integer.MIN_VALUE, Integer.MAX_VALUE}) {
            CHECKS.due("process(0, " + bad + ")", -1, x.process(0, bad));
            CHECKS.due("process(1, " + bad + "), not there", -1, x.process(1, bad));
        }
        for (int good : new int[] {1, 6, 10, 13}) {
            CHECKS.due("process(0, " + good + ")", 0, x.process(0, good));
        }
    }

    private static void refusedNumbers() {
        CHECKS.sentence(Sentence.PROCESS_REFUSED);
        SheetKernel x = new SheetKernel();
        for (int p = 0; p < 4; p++) {
            x.spawn();
        }
        for (int bad : new int[] {-1, 4, Integer.MIN_VALUE, Integer.MAX_VALUE}) {
            for (int what : new int[] {0, 1, 2, 3, 4, 5, 6, 10, 13, 14}) {
                CHECKS.due("process(" + bad + ", " + what + ")", -1, x.process(bad, what));
            }
        }
        CHECKS.due("process(0, 0)", 1, x.process(0, 0));
        CHECKS.due("process(3, 0)", 1, x.process(3, 0));
    }

    /** Its PARENT, too, is 0 then, and not NONE. */
    private static void zeroIfNotThere() {
        CHECKS.sentence(Sentence.PROCESS_REFUSED);
        SheetKernel never = new SheetKernel();
        SheetKernel gone = Words.ran(4, Words.set(3, 8), Words.set(1, 7), Words.print(3), Words.exit(3));
        for (int p = 0; p < 4; p++) {
            CHECKS.process(never, p, 0, 0, 0, 0, 0, 0, 0);
            CHECKS.registers(never, p, 0, 0, 0, 0);
            CHECKS.process(gone, p, 0, 0, 0, 0, 0, 0, 0);
            CHECKS.registers(gone, p, 0, 0, 0, 0);
        }
    }

    /** PROCESS 0 WAITS, its child 1 is READY, its child 2 SLEEPS; 1 ENDS then. */
    private static SheetKernel family() {
        SheetKernel x = Words.ran(1, Words.fork(0), Words.fork(1), Words.set(2, 9), Words.sleep(2), Words.jump(4));
        Words.lay(x, 1, 1, Words.jump(1));
        x.run(1);
        Words.lay(x, 0, 2, Words.await(2));
        x.run(10);
        return x;
    }

    private static void states() {
        CHECKS.sentence(Sentence.STATES);
        SheetKernel x = family();
        CHECKS.due("READY", 1, x.process(1, 0));
        CHECKS.due("SLEEPS", 2, x.process(2, 0));
        CHECKS.due("WAITS", 3, x.process(0, 0));
        x.kill(1);
        CHECKS.due("DEAD", 4, x.process(1, 0));
        CHECKS.due("with a CODE", -9, x.process(1, 3));
    }

    private static void everyWhat() {
        CHECKS.sentence(Sentence.PROCESS);
        SheetKernel x = family();
        CHECKS.process(x, 0, 3, 2, -2, 0, 0, 1, 3);
        CHECKS.registers(x, 0, 1, 2, 0, 0);
        CHECKS.process(x, 1, 1, 1, 0, 0, 0, 0, 7);
        CHECKS.registers(x, 1, -1, 0, 0, 0);
        CHECKS.process(x, 2, 2, 4, 0, 0, 6, 0, 2);
        CHECKS.registers(x, 2, 1, -1, 9, 0);
        x.kill(1);
        CHECKS.process(x, 0, 1, 2, -2, 0, 0, 1, 3);
        CHECKS.process(x, 1, 4, 1, 0, -9, 0, 0, 7);
        CHECKS.registers(x, 1, -1, 0, 0, 0);
        x.kill(0);
        CHECKS.process(x, 0, 0, 0, 0, 0, 0, 0, 0);
        CHECKS.process(x, 1, 0, 0, 0, 0, 0, 0, 0);
        CHECKS.process(x, 2, 2, 4, -2, 0, 6, 0, 2);
    }

    /** The number of a DEAD one, with its CODE, is given to another one. */
    private static void codeOfTheLiving() {
        CHECKS.sentence(Sentence.PROCESS);
        SheetKernel x = Words.ran(2, Words.fork(0), Words.fork(1), Words.await(2), Words.fork(3), Words.jump(4));
        x.kill(1);
        CHECKS.due("CODE", -9, x.process(1, 3));
        x.run(2);
        CHECKS.due("1 again", 1, x.process(0, 13));
        CHECKS.process(x, 1, 1, 4, 0, 0, 0, 0, 0);
    }

    private static void sleepOfTheWakeful() {
        CHECKS.sentence(Sentence.PROCESS);
        SheetKernel x = Words.ran(2, Words.set(1, 3), Words.sleep(1), Words.jump(2));
        int[] left = {3, 2, 1, 0, 0};
        for (int ticks : left) {
            CHECKS.due("sleeps yet", ticks, x.process(0, 4));
            x.run(1);
        }
        SheetKernel y = Words.ran(3, Words.fork(0), Words.set(1, 5), Words.sleep(1), Words.jump(3));
        y.run(2);
        y.kill(1);
        CHECKS.due("of a DEAD one", 0, y.process(1, 4));
    }

    private static void faultsSinceItWasThere() {
        CHECKS.sentence(Sentence.PROCESS);
        SheetKernel x = new SheetKernel();
        x.spawn();
        x.spawn();
        Words.lay(x, 0, 0, Words.load(1, 0, 32), Words.jump(8));
        x.poke(1, 0, Words.jump(0));
        x.run(2);
        CHECKS.process(x, 0, 1, 8, -2, 0, 0, 2, 2);
        x.poke(0, 16, 1);
        x.poke(0, 17, 1);
        CHECKS.due("FAULTS by poke too", 3, x.process(0, 5));
        CHECKS.due("FAULTS of the other", 1, x.process(1, 5));
        x.run(1);
        CHECKS.due("all FAULTS", 5, x.count(7));
        x.spawn();
        CHECKS.due("since it was there", 0, x.process(0, 5));
        x.poke(0, 0, 1);
        CHECKS.due("since it was there", 1, x.process(0, 5));
    }

    /** One that WAITS begins its WAIT twice, and one that is WILD has begun its INSTRUCTION. */
    private static void instructionsBegun() {
        CHECKS.sentence(Sentence.PROCESS);
        SheetKernel x = Words.ran(2, Words.fork(0), Words.await(1), Words.jump(2));
        CHECKS.due("begun", 2, x.process(0, 6));
        x.poke(1, 1, Words.word(15, 0, 0, 0));
        x.run(1);
        CHECKS.due("a WILD one", 1, x.process(1, 6));
        x.run(1);
        CHECKS.due("the WAIT again", 3, x.process(0, 6));
        x.run(5);
        CHECKS.due("begun", 8, x.process(0, 6));
        x.kill(0);
        x.spawn();
        CHECKS.due("since it was there", 0, x.process(0, 6));
    }

    private static void registersApart() {
        CHECKS.sentence(Sentence.PROCESS);
        SheetKernel x = Words.ran(4, Words.set(0, 5), Words.set(1, 6), Words.set(2, 7), Words.set(3, 8));
        x.spawn();
        CHECKS.registers(x, 0, 5, 6, 7, 8);
        CHECKS.registers(x, 1, 0, 0, 0, 0);
    }
}
