/** Promises 3 and 8: SHEETS, and how PAGES are REACHED, SHEETS BROUGHT IN and sent out. */
public final class MemoryTest {
    private static final Checks CHECKS = new Checks("MemoryTest");

    public static void main(String[] args) {
        sixFrames();
        thirtyTwoSlots();
        eightWordsInAFrameAndInASlot();
        addressesOfPages();
        goneWithFrameAndSlot();
        notGoneWhileItBelongsToOne();
        liesAndHas();
        usedAndChanged();
        newSheetToRead();
        newSheetToWrite();
        newSheetInAnOldFrame();
        noCopyForOneOwner();
        noCopyToRead();
        copyForTwoOwners();
        copyForFourOwners();
        copyFromTheDisk();
        copyOfZerosWithoutSlot();
        copySendsItsSheetOut();
        elseBroughtIn();
        usedByReading();
        usedByWriting();
        changedStaysByReading();
        nothingInAFrame();
        leastFrame();
        lastFrameBeforeTheHandLooks();
        handGoesRoundIfAllAreUsed();
        handStopsAtTheFirstNotUsed();
        handSparesTheUsed();
        handLooksFromFiveToZero();
        handGoesFromFiveToZero();
        handStaysWhileThereIsRoom();
        aCopyBroughtInAgainIsAFault();
        wordsFromTheSlot();
        zerosWithoutSlot();
        leastFreeSlot();
        keepsItsSlot();
        liesInNoFrame();
        unchangedIsNotWritten();
        CHECKS.end();
    }

    private static void sixFrames() {
        CHECKS.sentence(Sentence.FRAMES_AND_SLOTS);
        SheetKernel x = new SheetKernel();
        x.spawn();
        for (int k = 0; k < 6; k++) {
            x.poke(0, 8 * k, 1);
            CHECKS.counts(x, 4, k + 1, 0);
        }
        x.poke(0, 48, 1);
        CHECKS.counts(x, 4, 6, 1);
    }

    /** All 32 PAGES have SHEETS of their own, and each of them was sent out once at least. */
    private static void thirtyTwoSlots() {
        CHECKS.sentence(Sentence.FRAMES_AND_SLOTS);
        SheetKernel x = new SheetKernel();
        for (int p = 0; p < 4; p++) {
            x.spawn();
            for (int k = 0; k < 8; k++) {
                CHECKS.due("poke", 1, x.poke(p, 8 * k, 10 * p + k));
            }
        }
        CHECKS.counts(x, 4, 6, 26, 2, 32, 26, 0, 0);
        for (int round = 1; round <= 2; round++) {
            for (int p = 0; p < 4; p++) {
                for (int k = 0; k < 8; k++) {
                    CHECKS.due("poke", 1, x.poke(p, 8 * k + round, 100 * round + 10 * p + k));
                }
            }
            CHECKS.counts(x, 4, 6, 32, (2 + 2 * round) % 6, 32 + 32 * round, 26 + 32 * round, 32 * round, 0);
        }
        for (int p = 0; p < 4; p++) {
            for (int k = 0; k < 8; k++) {
                CHECKS.due("SLOT", 8 * p + k, x.page(p, k, 2));
                CHECKS.due("peek", 10 * p + k, x.peek(p, 8 * k));
                CHECKS.due("peek", 100 + 10 * p + k, x.peek(p, 8 * k + 1));
                CHECKS.due("peek", 200 + 10 * p + k, x.peek(p, 8 * k + 2));
            }
        }
    }

    private static void eightWordsInAFrameAndInASlot() {
        CHECKS.sentence(Sentence.FRAMES_AND_SLOTS);
        SheetKernel x = Words.fullFrames();
        for (int a = 0; a < 8; a++) {
            x.poke(0, a, -1 - a);
        }
        x.poke(0, 48, 106);
        CHECKS.due("it is on the disk", 2, x.page(0, 0, 0));
        for (int a = 0; a < 8; a++) {
            CHECKS.due("peek in the SLOT", -1 - a, x.peek(0, a));
        }
        x.poke(0, 3, 55);
        CHECKS.due("it is in a FRAME", 1, x.page(0, 0, 0));
        for (int a = 0; a < 8; a++) {
            CHECKS.due("peek in the FRAME", a == 3 ? 55 : -1 - a, x.peek(0, a));
        }
    }

    private static void addressesOfPages() {
        CHECKS.sentence(Sentence.PROCESSES_ARE);
        int[] edges = {0, 7, 8, 15, 16, 55, 56, 63};
        for (int a : edges) {
            SheetKernel x = new SheetKernel();
            x.spawn();
            x.poke(0, a, 5);
            for (int k = 0; k < 8; k++) {
                CHECKS.due("ADDRESS " + a + " is of PAGE " + k, k == a / 8 ? 1 : 0, x.page(0, k, 0));
            }
            for (int other = 0; other < 64; other++) {
                CHECKS.due("peek " + other, other == a ? 5 : 0, x.peek(0, other));
            }
        }
    }

    private static void goneWithFrameAndSlot() {
        CHECKS.sentence(Sentence.SHEET_BELONGS);
        SheetKernel x = Words.fullFrames();
        x.poke(0, 48, 106);
        x.poke(0, 0, 200);
        CHECKS.page(x, 0, 0, 1, 1, 0, 1, 1, 1);
        CHECKS.counts(x, 4, 6, 2);
        x.kill(0);
        CHECKS.counts(x, 4, 0, 0);
    }

    /** The first owner ENDS, and then the last one. */
    private static void notGoneWhileItBelongsToOne() {
        CHECKS.sentence(Sentence.SHEET_BELONGS);
        SheetKernel x = Words.parentAndChild();
        for (int k = 1; k < 7; k++) {
            x.poke(0, 8 * k, 1);
        }
        CHECKS.page(x, 1, 0, 2, -2, 0, 0, 0, 2);
        x.kill(0);
        CHECKS.page(x, 1, 0, 2, -2, 0, 0, 0, 1);
        CHECKS.counts(x, 4, 0, 1);
        CHECKS.due("peek", Words.jump(1), x.peek(1, 1));
        x.kill(1);
        CHECKS.counts(x, 4, 0, 0);
    }

    private static void liesAndHas() {
        CHECKS.sentence(Sentence.SHEET_LIES);
        SheetKernel x = Words.fullFrames();
        CHECKS.page(x, 0, 1, 1, 1, -2);
        x.poke(0, 48, 106);
        CHECKS.page(x, 0, 0, 2, -2, 0);
        x.poke(0, 0, 200);
        CHECKS.page(x, 0, 0, 1, 1, 0);
        CHECKS.page(readOnly(), 0, 1, 2, -2, -2);
    }

    private static void usedAndChanged() {
        CHECKS.sentence(Sentence.SHEET_MAY_BE);
        SheetKernel x = Words.fullFrames();
        CHECKS.due("USED", 1, x.page(0, 1, 3));
        CHECKS.due("CHANGED", 1, x.page(0, 1, 4));
        x.poke(0, 48, 106);
        CHECKS.due("not USED", 0, x.page(0, 1, 3));
        CHECKS.due("but CHANGED", 1, x.page(0, 1, 4));
        CHECKS.due("not USED", 0, x.page(0, 0, 3));
        CHECKS.due("not CHANGED", 0, x.page(0, 0, 4));
        SheetKernel y = Words.ran(1, Words.load(1, 2, 8));
        CHECKS.due("USED", 1, y.page(0, 1, 3));
        CHECKS.due("not CHANGED", 0, y.page(0, 1, 4));
    }

    /** PAGE 1 was read only, has no SLOT, and is sent out by PAGE 7, as PAGE 0 was by PAGE 6. */
    private static SheetKernel readOnly() {
        SheetKernel x = Words.ran(1, Words.load(1, 2, 8), Words.jump(1));
        for (int k = 2; k < 8; k++) {
            x.poke(0, 8 * k, 100 + k);
        }
        return x;
    }

    private static void newSheetToRead() {
        CHECKS.sentence(Sentence.REACH_NEW);
        SheetKernel x = Words.ran(2, Words.set(1, 9), Words.load(1, 2, 63));
        CHECKS.due("the WORD", 0, x.process(0, 11));
        CHECKS.page(x, 0, 7, 1, 1, -2, 1, 0, 1);
        CHECKS.due("FAULTS", 2, x.process(0, 5));
        CHECKS.due("read from SLOTS", 0, x.count(9));
    }

    private static void newSheetToWrite() {
        CHECKS.sentence(Sentence.REACH_NEW);
        SheetKernel x = new SheetKernel();
        x.spawn();
        CHECKS.due("poke", 1, x.poke(0, 12, 5));
        for (int a = 8; a < 16; a++) {
            CHECKS.due("peek", a == 12 ? 5 : 0, x.peek(0, a));
        }
        CHECKS.page(x, 0, 1, 1, 0, -2, 1, 1, 1);
    }

    /** PAGE 6 gets the FRAME in which PAGE 0 lay, and none of its WORDS. */
    private static void newSheetInAnOldFrame() {
        CHECKS.sentence(Sentence.REACH_NEW);
        SheetKernel x = Words.fullFrames();
        for (int a = 0; a < 8; a++) {
            x.poke(0, a, 9);
        }
        x.poke(0, 55, 1);
        CHECKS.due("FRAME", 0, x.page(0, 6, 1));
        for (int a = 48; a < 55; a++) {
            CHECKS.due("peek", 0, x.peek(0, a));
        }
    }

    private static void noCopyForOneOwner() {
        CHECKS.sentence(Sentence.REACH_COPY);
        SheetKernel x = Words.parentAndChild();
        x.kill(1);
        CHECKS.due("poke", 0, x.poke(0, 7, 4));
        CHECKS.due("COPIES", 0, x.count(10));
        CHECKS.page(x, 0, 0, 1, 0, -2, 1, 1, 1);
    }

    private static void noCopyToRead() {
        CHECKS.sentence(Sentence.REACH_COPY);
        SheetKernel x = Words.ran(8, Words.fork(0), Words.load(1, 2, 0), Words.jump(1));
        CHECKS.due("COPIES", 0, x.count(10));
        CHECKS.page(x, 0, 0, 1, 0, -2, 1, 1, 2);
        CHECKS.page(x, 1, 0, 1, 0, -2, 1, 1, 2);
    }

    private static void copyForTwoOwners() {
        CHECKS.sentence(Sentence.REACH_COPY);
        SheetKernel x = Words.parentAndChild();
        CHECKS.due("poke to both", 0, x.poke(1, 7, 3));
        CHECKS.page(x, 1, 0, 1, 1, -2, 1, 1, 1);
        CHECKS.page(x, 0, 0, 1, 0, -2, 1, 1, 1);
        CHECKS.counts(x, 4, 2, 0, 0, 1, 0, 0, 1);
        CHECKS.due("the same WORDS", Words.fork(0), x.peek(1, 0));
        CHECKS.due("the same WORDS", Words.jump(1), x.peek(1, 1));
        CHECKS.due("but the one", 3, x.peek(1, 7));
        CHECKS.due("the other one's WORD", 0, x.peek(0, 7));
        CHECKS.due("poke to one", 0, x.poke(0, 7, 4));
        CHECKS.due("poke to one", 0, x.poke(1, 6, 4));
        CHECKS.due("COPIES", 1, x.count(10));
    }

    private static void copyForFourOwners() {
        CHECKS.sentence(Sentence.REACH_COPY);
        SheetKernel x = Words.ran(3, Words.fork(0), Words.fork(0), Words.fork(0), Words.jump(3));
        for (int owners = 4; owners > 1; owners--) {
            CHECKS.due("it belongs to", owners, x.page(0, 0, 5));
            CHECKS.due("poke", 0, x.poke(owners - 1, 7, owners));
            CHECKS.page(x, owners - 1, 0, 1, 5 - owners, -2, 1, 1, 1);
        }
        CHECKS.due("it belongs to", 1, x.page(0, 0, 5));
        CHECKS.due("poke", 0, x.poke(0, 7, 1));
        CHECKS.due("COPIES", 3, x.count(10));
        for (int p = 0; p < 4; p++) {
            CHECKS.due("peek", p + 1, x.peek(p, 7));
        }
    }

    /** The SHEET gets FRAME 1 and its COPY FRAME 2; the SHEET is neither USED nor CHANGED by it. */
    private static void copyFromTheDisk() {
        CHECKS.sentence(Sentence.REACH_COPY);
        SheetKernel x = Words.parentAndChild();
        for (int k = 1; k < 7; k++) {
            x.poke(0, 8 * k, k);
        }
        CHECKS.page(x, 1, 0, 2, -2, 0, 0, 0, 2);
        CHECKS.counts(x, 4, 6, 1, 1, 7, 1, 0, 0);
        CHECKS.due("poke to both", 1, x.poke(1, 7, 3));
        CHECKS.counts(x, 4, 6, 3, 3, 8, 3, 1, 1);
        CHECKS.page(x, 0, 0, 1, 1, 0, 0, 0, 1);
        CHECKS.page(x, 1, 0, 1, 2, -2, 1, 1, 1);
        CHECKS.page(x, 0, 1, 2, -2, 1, 0, 0, 1);
        CHECKS.page(x, 0, 2, 2, -2, 2, 0, 0, 1);
        CHECKS.due("the same WORDS", Words.jump(1), x.peek(1, 1));
    }

    /** PAGE 1 is on the disk without a SLOT when both have it: its COPY is all 0 but for the WORD. */
    private static void copyOfZerosWithoutSlot() {
        CHECKS.sentence(Sentence.REACH_COPY);
        SheetKernel x = readOnly();
        x.poke(0, 1, Words.fork(2));
        x.run(1);
        CHECKS.page(x, 1, 1, 2, -2, -2, 0, 0, 2);
        CHECKS.due("read from SLOTS by the poke", 1, x.count(9));
        CHECKS.due("poke to both", 1, x.poke(1, 9, 3));
        CHECKS.due("no more read", 1, x.count(9));
        CHECKS.due("COPIES", 1, x.count(10));
        for (int a = 8; a < 16; a++) {
            CHECKS.due("peek", a == 9 ? 3 : 0, x.peek(1, a));
            CHECKS.due("peek", 0, x.peek(0, a));
        }
        CHECKS.page(x, 1, 1, 1, 4, -2, 1, 1, 1);
        CHECKS.page(x, 0, 1, 1, 3, -2, 0, 0, 1);
    }

    /** A SHEET brought in only to be copied is not USED, so that its COPY may take its FRAME. */
    private static void copySendsItsSheetOut() {
        CHECKS.sentence(Sentence.REACH_COPY);
        SheetKernel x = Words.parentAndChild();
        for (int k = 1; k < 7; k++) {
            x.poke(0, 8 * k, k);
        }
        for (int k = 2; k < 7; k++) {
            x.poke(0, 8 * k, 10 + k);
        }
        CHECKS.due("poke to both", 1, x.poke(1, 7, 3));
        CHECKS.page(x, 0, 0, 2, -2, 0, 0, 0, 1);
        CHECKS.page(x, 1, 0, 1, 1, -2, 1, 1, 1);
        CHECKS.counts(x, 4, 6, 2, 2, 8, 2, 1, 1);
        CHECKS.due("the same WORDS", Words.fork(0), x.peek(1, 0));
        CHECKS.due("but the one", 3, x.peek(1, 7));
        CHECKS.due("the other one's WORD", 0, x.peek(0, 7));
    }

    /** A SHEET of both on the disk is BROUGHT IN by reading for both of them. */
    private static void elseBroughtIn() {
        CHECKS.sentence(Sentence.REACH_ELSE);
        SheetKernel x = Words.parentAndChild();
        for (int k = 1; k < 7; k++) {
            x.poke(0, 8 * k, k);
        }
        CHECKS.page(x, 0, 0, 2, -2, 0, 0, 0, 2);
        x.run(1);
        CHECKS.page(x, 0, 0, 1, 1, 0, 1, 0, 2);
        CHECKS.page(x, 1, 0, 1, 1, 0, 1, 0, 2);
        CHECKS.counts(x, 7, 8, 2, 1, 0);
        CHECKS.due("FAULTS", 8, x.process(0, 5));
        CHECKS.due("FAULTS of the other", 0, x.process(1, 5));
    }

    /** PAGE 1 is read in FRAME 5, is USED no more when PAGE 6 comes, and is read there again. */
    private static void usedByReading() {
        CHECKS.sentence(Sentence.REACH_USED);
        SheetKernel x = Words.machine(Words.load(1, 2, 8), Words.load(1, 2, 9), Words.jump(2));
        for (int k = 2; k < 6; k++) {
            x.poke(0, 8 * k, 1);
        }
        x.run(1);
        CHECKS.page(x, 0, 1, 1, 5, -2, 1, 0, 1);
        x.poke(0, 48, 1);
        CHECKS.page(x, 0, 1, 1, 5, -2, 0, 0, 1);
        CHECKS.due("FAULTS", 7, x.process(0, 5));
        x.run(1);
        CHECKS.page(x, 0, 1, 1, 5, -2, 1, 0, 1);
        CHECKS.due("FAULTS by the PLACE alone", 8, x.process(0, 5));
    }

    private static void usedByWriting() {
        CHECKS.sentence(Sentence.REACH_USED);
        SheetKernel x = Words.fullFrames();
        x.poke(0, 48, 106);
        CHECKS.page(x, 0, 1, 1, 1, -2, 0, 1, 1);
        CHECKS.due("poke", 0, x.poke(0, 8, 201));
        CHECKS.page(x, 0, 1, 1, 1, -2, 1, 1, 1);
    }

    private static void changedStaysByReading() {
        CHECKS.sentence(Sentence.REACH_USED);
        SheetKernel x = Words.machine(Words.load(1, 2, 8), Words.store(1, 2, 16), Words.load(1, 2, 16),
            Words.load(1, 2, 24), Words.store(1, 2, 24), Words.jump(5));
        x.poke(0, 8, 5);
        x.run(4);
        CHECKS.page(x, 0, 1, 1, 1, -2, 1, 1, 1);
        CHECKS.page(x, 0, 2, 1, 2, -2, 1, 1, 1);
        CHECKS.page(x, 0, 3, 1, 3, -2, 1, 0, 1);
        x.run(1);
        CHECKS.page(x, 0, 3, 1, 3, -2, 1, 1, 1);
    }

    private static void nothingInAFrame() {
        CHECKS.sentence(Sentence.BRING_IN_NOTHING);
        SheetKernel x = Words.fullFrames();
        for (int k = 0; k < 6; k++) {
            CHECKS.due("poke", 0, x.poke(0, 8 * k + 7, 1));
            CHECKS.due("FRAME", k, x.page(0, k, 1));
        }
        CHECKS.counts(x, 4, 6, 0, 0, 6, 0, 0, 0);
    }

    /** FRAMES 1 and 3 are those of PROCESS 1. */
    private static void leastFrame() {
        CHECKS.sentence(Sentence.BRING_IN_FAULT);
        SheetKernel x = new SheetKernel();
        x.spawn();
        x.spawn();
        x.poke(0, 0, 1);
        x.poke(1, 0, 1);
        x.poke(0, 8, 1);
        x.poke(1, 8, 1);
        x.poke(0, 16, 1);
        x.kill(1);
        int[] frames = {1, 3, 5};
        for (int i = 0; i < frames.length; i++) {
            CHECKS.due("poke", 1, x.poke(0, 24 + 8 * i, 1));
            CHECKS.due("FRAME", frames[i], x.page(0, 3 + i, 1));
        }
        CHECKS.counts(x, 4, 6, 0, 0, 8, 0, 0, 0);
    }

    private static void lastFrameBeforeTheHandLooks() {
        CHECKS.sentence(Sentence.BRING_IN_FAULT);
        SheetKernel x = Words.fullFrames();
        CHECKS.counts(x, 4, 6, 0, 0, 6, 0, 0, 0);
        for (int k = 0; k < 6; k++) {
            CHECKS.page(x, 0, k, 1, k, -2, 1, 1, 1);
        }
    }

    private static void handGoesRoundIfAllAreUsed() {
        CHECKS.sentence(Sentence.BRING_IN_FAULT);
        SheetKernel x = Words.fullFrames();
        CHECKS.due("poke", 1, x.poke(0, 50, 7));
        CHECKS.counts(x, 4, 6, 1, 1, 7, 1, 0, 0);
        CHECKS.page(x, 0, 0, 2, -2, 0, 0, 0, 1);
        CHECKS.page(x, 0, 6, 1, 0, -2, 1, 1, 1);
        for (int k = 1; k < 6; k++) {
            CHECKS.page(x, 0, k, 1, k, -2, 0, 1, 1);
        }
    }

    private static void handStopsAtTheFirstNotUsed() {
        CHECKS.sentence(Sentence.BRING_IN_FAULT);
        SheetKernel x = Words.fullFrames();
        x.poke(0, 48, 106);
        x.poke(0, 16, 202);
        CHECKS.due("poke", 1, x.poke(0, 56, 107));
        CHECKS.page(x, 0, 1, 2, -2, 1, 0, 0, 1);
        CHECKS.page(x, 0, 7, 1, 1, -2, 1, 1, 1);
        CHECKS.due("USED as it was", 1, x.page(0, 2, 3));
        CHECKS.due("HAND", 2, x.count(6));
    }

    private static void handSparesTheUsed() {
        CHECKS.sentence(Sentence.BRING_IN_FAULT);
        SheetKernel x = Words.fullFrames();
        x.poke(0, 48, 106);
        CHECKS.due("poke in a FRAME", 0, x.poke(0, 9, 1));
        CHECKS.page(x, 0, 1, 1, 1, -2, 1, 1, 1);
        CHECKS.due("poke", 1, x.poke(0, 56, 107));
        CHECKS.page(x, 0, 1, 1, 1, -2, 0, 1, 1);
        CHECKS.page(x, 0, 2, 2, -2, 1, 0, 0, 1);
        CHECKS.page(x, 0, 7, 1, 2, -2, 1, 1, 1);
        CHECKS.counts(x, 4, 6, 2, 3, 8, 2, 0, 0);
    }

    /** The HAND is at FRAME 5, and the SHEETS in FRAMES 5 and 0 are USED, that in 1 is not. */
    private static void handLooksFromFiveToZero() {
        CHECKS.sentence(Sentence.BRING_IN_FAULT);
        SheetKernel x = Words.fullFrames();
        x.poke(0, 48, 106);
        for (int k : new int[] {1, 2, 3, 5}) {
            x.poke(0, 8 * k, 200 + k);
        }
        x.poke(0, 56, 107);
        CHECKS.page(x, 0, 7, 1, 4, -2, 1, 1, 1);
        CHECKS.due("HAND", 5, x.count(6));
        CHECKS.due("poke", 1, x.poke(0, 0, 200));
        CHECKS.page(x, 0, 0, 1, 1, 0, 1, 1, 1);
        CHECKS.page(x, 0, 1, 2, -2, 2, 0, 0, 1);
        CHECKS.page(x, 0, 5, 1, 5, -2, 0, 1, 1);
        CHECKS.page(x, 0, 6, 1, 0, -2, 0, 1, 1);
        CHECKS.page(x, 0, 7, 1, 4, -2, 1, 1, 1);
        CHECKS.due("HAND", 2, x.count(6));
    }

    /** Six new SHEETS take FRAMES 0 to 5 one behind the other. */
    private static void handGoesFromFiveToZero() {
        CHECKS.sentence(Sentence.BRING_IN_FAULT);
        SheetKernel x = Words.fullFrames();
        x.spawn();
        int[] hands = {1, 2, 3, 4, 5, 0};
        for (int k = 0; k < 6; k++) {
            x.poke(1, 8 * k, 1);
            CHECKS.due("FRAME", k, x.page(1, k, 1));
            CHECKS.due("HAND", hands[k], x.count(6));
        }
    }

    private static void handStaysWhileThereIsRoom() {
        CHECKS.sentence(Sentence.BRING_IN_FAULT);
        SheetKernel x = Words.fullFrames();
        x.poke(0, 48, 106);
        x.poke(0, 56, 107);
        CHECKS.due("HAND", 2, x.count(6));
        x.kill(0);
        CHECKS.due("HAND", 2, x.count(6));
        x.spawn();
        for (int k = 0; k < 6; k++) {
            x.poke(0, 8 * k, 1);
            CHECKS.due("FRAME", k, x.page(0, k, 1));
            CHECKS.due("HAND", 2, x.count(6));
        }
        x.poke(0, 48, 1);
        CHECKS.due("FRAME", 2, x.page(0, 6, 1));
        CHECKS.due("HAND", 3, x.count(6));
    }

    /** PROCESS 1 has a COPY, which is made to go out by six SHEETS of PROCESS 2. */
    private static void aCopyBroughtInAgainIsAFault() {
        CHECKS.sentence(Sentence.BRING_IN_FAULT);
        SheetKernel x = Words.parentAndChild();
        CHECKS.due("poke", 0, x.poke(1, 7, 3));
        x.spawn();
        for (int k = 0; k < 6; k++) {
            x.poke(2, 8 * k, 1);
        }
        CHECKS.page(x, 1, 0, 2, -2, 1, 0, 0, 1);
        CHECKS.due("poke", 1, x.poke(1, 6, 4));
        CHECKS.due("FAULTS", 1, x.process(1, 5));
        CHECKS.due("COPIES", 1, x.count(10));
        CHECKS.due("read", 1, x.count(9));
        CHECKS.due("peek", 3, x.peek(1, 7));
    }

    private static void wordsFromTheSlot() {
        CHECKS.sentence(Sentence.BRING_IN_WORDS);
        SheetKernel x = Words.machine(Words.load(1, 0, 8), Words.jump(1));
        x.poke(0, 8, 55);
        for (int k = 2; k < 8; k++) {
            x.poke(0, 8 * k, 1);
        }
        CHECKS.due("PAGE 0 is on the disk", 2, x.page(0, 0, 0));
        CHECKS.due("PAGE 1 is on the disk", 2, x.page(0, 1, 0));
        x.run(1);
        CHECKS.due("the WORD", 55, x.process(0, 11));
        CHECKS.page(x, 0, 0, 1, 2, 0, 1, 0, 1);
        CHECKS.page(x, 0, 1, 1, 3, 1, 1, 0, 1);
        CHECKS.counts(x, 7, 10, 4, 2, 0);
    }

    private static void zerosWithoutSlot() {
        CHECKS.sentence(Sentence.BRING_IN_WORDS);
        SheetKernel x = readOnly();
        CHECKS.page(x, 0, 1, 2, -2, -2, 0, 0, 1);
        CHECKS.due("poke", 1, x.poke(0, 15, 5));
        CHECKS.due("read from SLOTS", 0, x.count(9));
        CHECKS.page(x, 0, 1, 1, 2, -2, 1, 1, 1);
        for (int a = 8; a < 15; a++) {
            CHECKS.due("peek", 0, x.peek(0, a));
        }
    }

    /** SLOTS 0 and 1 are those of PROCESS 0, 2 is that of PROCESS 1. */
    private static void leastFreeSlot() {
        CHECKS.sentence(Sentence.GOES_OUT_CHANGED);
        SheetKernel x = new SheetKernel();
        x.spawn();
        x.spawn();
        x.poke(0, 0, 1);
        x.poke(0, 8, 1);
        for (int k = 0; k < 7; k++) {
            x.poke(1, 8 * k, 1);
        }
        CHECKS.page(x, 0, 0, 2, -2, 0);
        CHECKS.page(x, 0, 1, 2, -2, 1);
        CHECKS.page(x, 1, 0, 2, -2, 2);
        x.kill(0);
        CHECKS.due("SLOTS", 1, x.count(5));
        int[] slots = {0, 1, 3};
        for (int i = 0; i < slots.length; i++) {
            x.spawn();
            x.poke(i == 0 ? 0 : i + 1, 0, 1);
            CHECKS.due("SLOT", slots[i], x.page(1, i + 1, 2));
        }
    }

    /** PAGE 0 goes out twice, CHANGED both times, and is written to SLOT 0 both times. */
    private static void keepsItsSlot() {
        CHECKS.sentence(Sentence.GOES_OUT_CHANGED);
        SheetKernel x = Words.fullFrames();
        x.poke(0, 48, 106);
        CHECKS.due("poke", 1, x.poke(0, 1, 5));
        CHECKS.page(x, 0, 0, 1, 1, 0, 1, 1, 1);
        CHECKS.counts(x, 4, 6, 2, 2, 8, 2, 1, 0);
        for (int k = 1; k < 6; k++) {
            CHECKS.due("poke", 1, x.poke(0, 8 * k, 200 + k));
        }
        CHECKS.counts(x, 4, 6, 7, 1, 13, 7, 6, 0);
        x.poke(0, 56, 1);
        CHECKS.page(x, 0, 0, 2, -2, 0, 0, 0, 1);
        CHECKS.counts(x, 4, 6, 7, 2, 14, 8, 6, 0);
        CHECKS.due("peek", 100, x.peek(0, 0));
        CHECKS.due("peek", 5, x.peek(0, 1));
    }

    private static void liesInNoFrame() {
        CHECKS.sentence(Sentence.GOES_OUT_NO_FRAME);
        SheetKernel x = Words.fullFrames();
        x.poke(0, 48, 106);
        CHECKS.page(x, 0, 0, 2, -2);
        CHECKS.due("its FRAME is another's", 0, x.page(0, 6, 1));
        CHECKS.due("FRAMES", 6, x.count(4));
    }

    /** PAGE 1 goes out without a SLOT; PAGE 0 goes out for the second time as it is in SLOT 0. */
    private static void unchangedIsNotWritten() {
        CHECKS.sentence(Sentence.GOES_OUT_UNCHANGED);
        SheetKernel x = Words.machine(Words.load(1, 2, 8), Words.load(1, 2, 16), Words.load(1, 2, 24),
            Words.load(1, 2, 32), Words.load(1, 2, 40), Words.load(1, 2, 48), Words.load(1, 2, 8));
        x.run(6);
        CHECKS.counts(x, 4, 6, 1, 1, 7, 1, 0, 0);
        CHECKS.page(x, 0, 0, 2, -2, 0, 0, 0, 1);
        CHECKS.page(x, 0, 6, 1, 0, -2, 1, 0, 1);
        x.run(1);
        CHECKS.counts(x, 4, 6, 1, 3, 9, 1, 1, 0);
        CHECKS.page(x, 0, 0, 1, 1, 0, 1, 0, 1);
        CHECKS.page(x, 0, 1, 1, 2, -2, 1, 0, 1);
        CHECKS.page(x, 0, 2, 2, -2, -2, 0, 0, 1);
        for (int k : new int[] {7, 2, 3, 4, 5}) {
            CHECKS.due("poke", 1, x.poke(0, 8 * k, k));
        }
        CHECKS.page(x, 0, 0, 2, -2, 0, 0, 0, 1);
        CHECKS.counts(x, 4, 6, 1, 2, 14, 1, 1, 0);
        CHECKS.due("peek", Words.load(1, 2, 8), x.peek(0, 0));
        CHECKS.due("peek", 0, x.peek(0, 48));
    }
}
