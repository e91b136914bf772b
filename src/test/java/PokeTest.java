/** Promise 3. How a PAGE is REACHED is in MemoryTest. */
public final class PokeTest {
    private static final Checks CHECKS = new Checks("PokeTest");

    public static void main(String[] args) {
        wordsAreInts();
        everyAddressBecomesItsWord();
        faultOfANewSheet();
        noFaultInAFrame();
        faultFromTheDisk();
        noFaultForACopy();
        oneFaultForACopyFromTheDisk();
        aSleeperAndAWaiterMayBePoked();
        refusedAddresses();
        refusedNumbers();
        refusedIfNotThere();
        refusedIfDead();
        CHECKS.end();
    }

    private static void wordsAreInts() {
        CHECKS.sentence(Sentence.WORDS_ARE);
        SheetKernel x = new SheetKernel();
        x.spawn();
        int[] words = {Integer.MIN_VALUE, -1, 0, 1, Integer.MAX_VALUE};
        for (int i = 0; i < words.length; i++) {
            x.poke(0, i, words[i]);
        }
        for (int i = 0; i < words.length; i++) {
            CHECKS.due("peek", words[i], x.peek(0, i));
        }
    }

    private static void everyAddressBecomesItsWord() {
        CHECKS.sentence(Sentence.POKE);
        SheetKernel x = new SheetKernel();
        x.spawn();
        for (int a = 0; a < 64; a++) {
            CHECKS.due("poke " + a, a % 8 == 0 ? 1 : 0, x.poke(0, a, 1000 - a));
        }
        for (int a = 0; a < 64; a++) {
            CHECKS.due("peek " + a, 1000 - a, x.peek(0, a));
        }
    }

    private static void faultOfANewSheet() {
        CHECKS.sentence(Sentence.POKE);
        SheetKernel x = new SheetKernel();
        x.spawn();
        CHECKS.due("poke", 1, x.poke(0, 63, 5));
        CHECKS.due("process(0, 5)", 1, x.process(0, 5));
        CHECKS.due("count(7)", 1, x.count(7));
    }

    private static void noFaultInAFrame() {
        CHECKS.sentence(Sentence.POKE);
        SheetKernel x = Words.fullFrames();
        CHECKS.due("poke", 0, x.poke(0, 47, 5));
        CHECKS.due("poke the same WORD", 0, x.poke(0, 47, 5));
        CHECKS.due("process(0, 5)", 6, x.process(0, 5));
    }

    private static void faultFromTheDisk() {
        CHECKS.sentence(Sentence.POKE);
        SheetKernel x = Words.fullFrames();
        x.poke(0, 48, 106);
        CHECKS.due("poke", 1, x.poke(0, 1, 5));
        CHECKS.due("peek", 100, x.peek(0, 0));
        CHECKS.due("peek", 5, x.peek(0, 1));
        CHECKS.due("process(0, 5)", 8, x.process(0, 5));
    }

    private static void noFaultForACopy() {
        CHECKS.sentence(Sentence.POKE);
        SheetKernel x = Words.parentAndChild();
        CHECKS.due("poke", 0, x.poke(1, 7, 3));
        CHECKS.due("count(10)", 1, x.count(10));
        CHECKS.due("process(1, 5)", 0, x.process(1, 5));
    }

    /** The SHEET is BROUGHT IN, and so is its COPY, but one of them is a FAULT only. */
    private static void oneFaultForACopyFromTheDisk() {
        CHECKS.sentence(Sentence.POKE);
        SheetKernel x = Words.parentAndChild();
        for (int k = 1; k < 7; k++) {
            x.poke(0, 8 * k, k);
        }
        CHECKS.due("it is on the disk", 2, x.page(1, 0, 0));
        CHECKS.due("poke", 1, x.poke(1, 7, 3));
        CHECKS.due("count(10)", 1, x.count(10));
        CHECKS.due("the FAULT is its own", 1, x.process(1, 5));
        CHECKS.due("and not its PARENT's", 7, x.process(0, 5));
    }

    private static void aSleeperAndAWaiterMayBePoked() {
        CHECKS.sentence(Sentence.POKE);
        SheetKernel x = Words.ran(3, Words.set(1, 9), Words.fork(0), Words.await(2), Words.jump(3));
        x.poke(1, 2, Words.sleep(1));
        x.run(1);
        CHECKS.due("0 WAITS", 3, x.process(0, 0));
        CHECKS.due("1 SLEEPS", 2, x.process(1, 0));
        CHECKS.due("poke", 1, x.poke(0, 40, 5));
        CHECKS.due("poke", 1, x.poke(1, 40, 6));
        CHECKS.due("peek", 5, x.peek(0, 40));
        CHECKS.due("peek", 6, x.peek(1, 40));
        CHECKS.due("0 WAITS", 3, x.process(0, 0));
        CHECKS.due("1 SLEEPS", 2, x.process(1, 0));
    }

    private static void refusedAddresses() {
        CHECKS.sentence(Sentence.POKE_REFUSED);
        SheetKernel x = new SheetKernel();
        x.spawn();
        for (int bad : new int[] {-1, 64, -64, 128, Integer.MIN_VALUE, Integer.MAX_VALUE}) {
            CHECKS.due("poke at " + bad, -1, x.poke(0, bad, 1));
        }
        CHECKS.counts(x, 4, 0, 0, 0, 0, 0, 0, 0);
        CHECKS.due("poke at 0", 1, x.poke(0, 0, 1));
        CHECKS.due("poke at 63", 1, x.poke(0, 63, 1));
    }

    private static void refusedNumbers() {
        CHECKS.sentence(Sentence.POKE_REFUSED);
        SheetKernel x = new SheetKernel();
        for (int p = 0; p < 4; p++) {
            x.spawn();
        }
        for (int bad : new int[] {-1, 4, Integer.MIN_VALUE, Integer.MAX_VALUE}) {
            CHECKS.due("poke of " + bad, -1, x.poke(bad, 0, 1));
        }
        CHECKS.counts(x, 4, 0, 0, 0, 0, 0, 0, 0);
        CHECKS.due("poke of 0", 1, x.poke(0, 0, 1));
        CHECKS.due("poke of 3", 1, x.poke(3, 0, 1));
    }

    private static void refusedIfNotThere() {
        CHECKS.sentence(Sentence.POKE_REFUSED);
        SheetKernel x = new SheetKernel();
        CHECKS.due("poke of one never there", -1, x.poke(0, 0, 1));
        x.spawn();
        x.kill(0);
        CHECKS.due("poke of one that is gone", -1, x.poke(0, 0, 1));
        CHECKS.counts(x, 4, 0, 0, 0, 0, 0, 0, 0);
    }

    private static void refusedIfDead() {
        CHECKS.sentence(Sentence.POKE_REFUSED);
        SheetKernel x = Words.parentAndChild();
        x.kill(1);
        CHECKS.due("poke of a DEAD one", -1, x.poke(1, 0, 1));
        CHECKS.due("poke of a DEAD one", -1, x.poke(1, 63, 1));
        CHECKS.counts(x, 4, 1, 0, 0, 1, 0, 0, 0);
        CHECKS.page(x, 1, 0, 0, -2, -2, 0, 0, 0);
    }
}
