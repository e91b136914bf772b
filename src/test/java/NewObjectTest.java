/** Promise 1, the constants, and how long an object is used. */
public final class NewObjectTest {
    private static final Checks CHECKS = new Checks("NewObjectTest");

    public static void main(String[] args) {
        noProcesses();
        timeIsZero();
        allFramesAreFree();
        allSlotsAreFree();
        nothingHasHappened();
        objectsAreApart();
        refused();
        none();
        full();
        the512thCall();
        CHECKS.end();
    }

    private static void noProcesses() {
        CHECKS.sentence(Sentence.NEW_OBJECT);
        SheetKernel x = new SheetKernel();
        CHECKS.due("count(1)", 0, x.count(1));
        for (int p = 0; p < 4; p++) {
            CHECKS.process(x, p, 0, 0, 0, 0, 0, 0, 0);
            CHECKS.registers(x, p, 0, 0, 0, 0);
            CHECKS.due("page", -1, x.page(p, 0, 0));
            CHECKS.due("peek", -1, x.peek(p, 0));
            CHECKS.due("poke", -1, x.poke(p, 0, 1));
            CHECKS.due("kill", false, x.kill(p));
        }
        CHECKS.due("run", 0, x.run(40));
        CHECKS.due("spawn", 0, x.spawn());
    }

    private static void timeIsZero() {
        CHECKS.sentence(Sentence.NEW_OBJECT);
        SheetKernel x = new SheetKernel();
        CHECKS.due("count(0)", 0, x.count(0));
        x.run(1);
        CHECKS.due("count(0)", 1, x.count(0));
    }

    private static void allFramesAreFree() {
        CHECKS.sentence(Sentence.NEW_OBJECT);
        SheetKernel x = new SheetKernel();
        CHECKS.due("count(4)", 0, x.count(4));
        x.spawn();
        for (int k = 0; k < 6; k++) {
            x.poke(0, 8 * k, 1);
            CHECKS.due("FRAME of PAGE " + k, k, x.page(0, k, 1));
        }
        CHECKS.due("none had to go out", 0, x.count(8));
    }

    private static void allSlotsAreFree() {
        CHECKS.sentence(Sentence.NEW_OBJECT);
        CHECKS.due("count(5)", 0, new SheetKernel().count(5));
        SheetKernel x = Words.fullFrames();
        x.poke(0, 48, 1);
        CHECKS.due("the first SLOT", 0, x.page(0, 0, 2));
    }

    private static void nothingHasHappened() {
        CHECKS.sentence(Sentence.NEW_OBJECT);
        SheetKernel x = new SheetKernel();
        CHECKS.counts(x, 0, 0, 0, 3, 0, 0, 0, 0, 0, 0, 0, 0, 0, 0, 0);
        CHECKS.printed(x);
    }

    private static void objectsAreApart() {
        CHECKS.sentence(Sentence.NEW_OBJECT);
        SheetKernel x = Words.ran(2, Words.set(0, 5), Words.print(0));
        SheetKernel y = new SheetKernel();
        CHECKS.counts(y, 0, 0, 0, 3, 0, 0, 0, 0, 0, 0, 0, 0, 0, 0, 0);
        CHECKS.printed(y);
        CHECKS.printed(x, 5);
    }

    private static void refused() {
        CHECKS.sentence(Sentence.REFUSED);
        CHECKS.due("REFUSED", -1, SheetKernel.REFUSED);
        SheetKernel x = new SheetKernel();
        CHECKS.due("a number is not as said", SheetKernel.REFUSED, x.run(0));
        CHECKS.due("what must be there is not", SheetKernel.REFUSED, x.peek(0, 0));
    }

    private static void none() {
        CHECKS.sentence(Sentence.NONE);
        CHECKS.due("NONE", -2, SheetKernel.NONE);
        SheetKernel x = new SheetKernel();
        x.spawn();
        CHECKS.due("no PARENT", SheetKernel.NONE, x.process(0, 2));
        CHECKS.due("no FRAME", SheetKernel.NONE, x.page(0, 0, 1));
        CHECKS.due("no SLOT", SheetKernel.NONE, x.page(0, 0, 2));
    }

    private static void full() {
        CHECKS.sentence(Sentence.FULL);
        CHECKS.due("FULL", -3, SheetKernel.FULL);
        SheetKernel x = new SheetKernel();
        for (int p = 0; p < 4; p++) {
            CHECKS.due("there is room", p, x.spawn());
        }
        CHECKS.due("there is no room", SheetKernel.FULL, x.spawn());
    }

    private static void the512thCall() {
        CHECKS.sentence(Sentence.USED_FOR);
        SheetKernel x = Words.machine(Words.set(1, 1), Words.add(0, 1), Words.print(0), Words.jump(1));
        for (int call = 6; call <= 508; call++) {
            CHECKS.due("call " + call + ", run(40)", 40, x.run(40));
        }
        int ticks = 503 * 40;
        CHECKS.due("call 509, count(0)", ticks, x.count(0));
        CHECKS.due("call 510, process(0, 6)", ticks, x.process(0, 6));
        CHECKS.due("call 511, count(12)", ticks / 3, x.count(12));
        CHECKS.due("call 512, printed(39)", 40, x.printed(39));
    }
}
