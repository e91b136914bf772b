/** Promise 10. */
public final class CountTest {
    private static final Checks CHECKS = new Checks("CountTest");

    public static void main(String[] args) {
        refused();
        everyCount();
        deadOnesAreThere();
        turnAtFirst();
        turnOfOneNotThere();
        doneInATurn();
        countsStayWhenSheetsGo();
        CHECKS.end();
    }

    private static void refused() {
        CHECKS.sentence(Sentence.COUNT_REFUSED);
        SheetKernel x = new SheetKernel();
        for (int bad : new int[] {-1, 14, 15, Integer.MIN_VALUE, Integer.MAX_VALUE}) {
            CHECKS.due("count(" + bad + ")", -1, x.count(bad));
        }
        CHECKS.due("count(0)", 0, x.count(0));
        CHECKS.due("count(13)", 0, x.count(13));
    }

    private static void everyCount() {
        CHECKS.sentence(Sentence.COUNT);
        SheetKernel x = Words.machine(Words.fork(0), Words.store(0, 3, 8), Words.print(0), Words.set(1, 3),
            Words.sleep(1), Words.word(15, 0, 0, 0));
        CHECKS.counts(x, 0, 0, 1, 3, 0, 1, 0, 0, 1, 0, 0, 0, 0, 0, 0);
        x.run(4);
        CHECKS.counts(x, 0, 4, 2, 0, 4, 2, 0, 0, 2, 0, 0, 0, 0, 1, 0);
        x.run(4);
        CHECKS.counts(x, 0, 8, 2, 1, 4, 3, 0, 0, 3, 0, 0, 0, 0, 2, 0);
        x.poke(1, 7, 1);
        CHECKS.counts(x, 0, 8, 2, 1, 4, 4, 0, 0, 3, 0, 0, 1, 0, 2, 0);
        x.run(1);
        CHECKS.counts(x, 0, 9, 2, 0, 1, 4, 0, 0, 3, 0, 0, 1, 0, 2, 0);
        x.run(2);
        CHECKS.counts(x, 0, 11, 2, 1, 1, 2, 0, 0, 3, 0, 0, 1, 1, 2, 1);
        x.run(1);
        CHECKS.counts(x, 0, 12, 0, 0, 1, 0, 0, 0, 3, 0, 0, 1, 1, 2, 2);
    }

    private static void deadOnesAreThere() {
        CHECKS.sentence(Sentence.COUNT);
        SheetKernel x = Words.ran(3, Words.fork(0), Words.fork(0), Words.fork(0), Words.jump(3));
        CHECKS.due("count(1)", 4, x.count(1));
        x.kill(1);
        x.kill(2);
        CHECKS.due("count(1)", 4, x.count(1));
        x.kill(0);
        CHECKS.due("count(1)", 1, x.count(1));
    }

    private static void turnAtFirst() {
        CHECKS.sentence(Sentence.COUNT);
        SheetKernel x = new SheetKernel();
        CHECKS.counts(x, 2, 3, 0);
        x.spawn();
        x.run(0);
        CHECKS.counts(x, 2, 3, 0);
        x.run(1);
        CHECKS.counts(x, 2, 0, 1);
    }

    private static void turnOfOneNotThere() {
        CHECKS.sentence(Sentence.COUNT);
        SheetKernel x = new SheetKernel();
        x.spawn();
        x.spawn();
        x.kill(0);
        x.run(3);
        CHECKS.counts(x, 0, 3, 0, 1, 1);
        CHECKS.due("IDLE", 2, x.count(11));
        x.run(40);
        CHECKS.counts(x, 0, 43, 0, 1, 1);
    }

    /** A WAIT that WAITS and a WILD INSTRUCTION are done, too. */
    private static void doneInATurn() {
        CHECKS.sentence(Sentence.COUNT);
        SheetKernel x = Words.ran(1, Words.fork(0), Words.await(1), Words.jump(2));
        CHECKS.counts(x, 2, 0, 1);
        x.poke(1, 1, Words.jump(64));
        x.run(1);
        CHECKS.counts(x, 2, 0, 2);
        x.run(1);
        CHECKS.counts(x, 2, 1, 1);
        x.run(1);
        CHECKS.counts(x, 2, 1, 2);
        CHECKS.due("WILD", 1, x.count(13));
    }

    private static void countsStayWhenSheetsGo() {
        CHECKS.sentence(Sentence.COUNT);
        SheetKernel x = Words.fullFrames();
        x.poke(0, 48, 1);
        x.poke(0, 0, 1);
        CHECKS.counts(x, 4, 6, 2, 2, 8, 2, 1, 0);
        x.kill(0);
        CHECKS.counts(x, 4, 0, 0, 2, 8, 2, 1, 0);
    }
}
