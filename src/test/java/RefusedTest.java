/** All promises: calls that answer REFUSED, FULL or false change nothing. */
public final class RefusedTest {
    private static final Checks CHECKS = new Checks("RefusedTest");
    private static final int LEAST = Integer.MIN_VALUE;
    private static final int MOST = Integer.MAX_VALUE;

    public static void main(String[] args) {
        busyEnough();
        refusedChangesNothing();
        falseChangesNothing();
        fullChangesNothing();
        nothingChangesLater();
        refusedBeforeNone();
        refusedBeforeZero();
        CHECKS.end();
    }

    /** If some count were 0, a call that makes it 0 would not be seen. */
    private static void busyEnough() {
        CHECKS.sentence(Sentence.CHANGE_NOTHING);
        SheetKernel x = Words.busy();
        for (int what = 0; what < 14; what++) {
            CHECKS.due("count(" + what + ") is above 0", true, x.count(what) > 0);
        }
        int[] states = {2, 4, 2, 0};
        for (int p = 0; p < 4; p++) {
            CHECKS.due("STATE of " + p, states[p], x.process(p, 0));
        }
    }

    /** PROCESS 1 is DEAD and 3 is not there. */
    private static void refuse(SheetKernel x) {
        for (int p : new int[] {-1, 4, 1, 3, LEAST, MOST}) {
            CHECKS.due("poke(" + p + ", 0, 1)", -1, x.poke(p, 0, 1));
            CHECKS.due("peek(" + p + ", 0)", -1, x.peek(p, 0));
        }
        for (int a : new int[] {-1, 64, LEAST, MOST}) {
            CHECKS.due("poke(0, " + a + ", 1)", -1, x.poke(0, a, 1));
            CHECKS.due("peek(0, " + a + ")", -1, x.peek(0, a));
        }
        for (int n : new int[] {-1, 0, 41, LEAST, MOST}) {
            CHECKS.due("run(" + n + ")", -1, x.run(n));
        }
        for (int p : new int[] {-1, 4, LEAST, MOST}) {
            CHECKS.due("process(" + p + ", 0)", -1, x.process(p, 0));
            CHECKS.due("page(" + p + ", 0, 0)", -1, x.page(p, 0, 0));
        }
        for (int what : new int[] {-1, 7, 9, 14, LEAST, MOST}) {
            CHECKS.due("process(0, " + what + ")", -1, x.process(0, what));
        }
        for (int bad : new int[] {-1, 8, LEAST, MOST}) {
            CHECKS.due("page(0, " + bad + ", 0)", -1, x.page(0, bad, 0));
            CHECKS.due("page(0, 0, " + bad + ")", -1, x.page(0, 0, bad));
        }
        CHECKS.due("page(3, 0, 0)", -1, x.page(3, 0, 0));
        CHECKS.due("count(-1)", -1, x.count(-1));
        CHECKS.due("count(14)", -1, x.count(14));
    }

    private static void killInVain(SheetKernel x) {
        for (int p : new int[] {-1, 4, 1, 3, LEAST, MOST}) {
            CHECKS.due("kill(" + p + ")", false, x.kill(p));
        }
    }

    private static void refusedChangesNothing() {
        CHECKS.sentence(Sentence.CHANGE_NOTHING);
        SheetKernel x = Words.busy();
        SheetKernel y = Words.busy();
        refuse(y);
        CHECKS.alike("after REFUSED", x, y);
    }

    private static void falseChangesNothing() {
        CHECKS.sentence(Sentence.CHANGE_NOTHING);
        SheetKernel x = Words.busy();
        SheetKernel y = Words.busy();
        killInVain(y);
        CHECKS.alike("after false", x, y);
    }

    private static void fullChangesNothing() {
        CHECKS.sentence(Sentence.CHANGE_NOTHING);
        SheetKernel x = Words.busy();
        SheetKernel y = Words.busy();
        CHECKS.due("spawn", x.spawn(), y.spawn());
        CHECKS.due("spawn", -3, y.spawn());
        CHECKS.alike("after FULL", x, y);
    }

    /** What cannot be asked for, such as whether a TURN is over, would show itself in later TICKS. */
    private static void nothingChangesLater() {
        CHECKS.sentence(Sentence.CHANGE_NOTHING);
        SheetKernel x = Words.busy();
        SheetKernel y = Words.busy();
        refuse(y);
        killInVain(y);
        CHECKS.due("spawn", x.spawn(), y.spawn());
        CHECKS.due("spawn", -3, y.spawn());
        CHECKS.due("run", x.run(40), y.run(40));
        CHECKS.alike("40 TICKS later", x, y);
    }

    private static void refusedBeforeNone() {
        CHECKS.sentence(Sentence.CHANGE_NOTHING);
        SheetKernel x = Words.fullFrames();
        CHECKS.due("no FRAME of one not there", -1, x.page(1, 0, 1));
        CHECKS.due("no SLOT of one not there", -1, x.page(1, 0, 2));
        CHECKS.due("no FRAME of PAGE 8", -1, x.page(0, 8, 1));
        CHECKS.due("no SLOT of PAGE -1", -1, x.page(0, -1, 2));
    }

    private static void refusedBeforeZero() {
        CHECKS.sentence(Sentence.CHANGE_NOTHING);
        SheetKernel x = new SheetKernel();
        CHECKS.due("process(0, 7), not there", -1, x.process(0, 7));
        CHECKS.due("process(4, 1), not there", -1, x.process(4, 1));
        CHECKS.due("page(0, 0, 5), not there", -1, x.page(0, 0, 5));
        CHECKS.due("peek(0, 0), not there", -1, x.peek(0, 0));
    }
}
