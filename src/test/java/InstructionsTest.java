/** Promise 6: what each INSTRUCTION does, and which are WILD. OP 8 is in SystemCallsTest. */
public final class InstructionsTest {
    private static final Checks CHECKS = new Checks("InstructionsTest");
    /** The largest N that a WORD has room for; the least is 1 below its opposite. */
    private static final int TOP = (1 << 23) - 1;

    public static void main(String[] args) {
        partsOfWords();
        partsOfWordsBelowZero();
        exits();
        exitOfAnEmptyPage();
        setsEveryNumber();
        addsAndWraps();
        subtractsAndWraps();
        loadsFirstAndLastAddress();
        loadsFromANewSheet();
        storesAtFirstAndLastAddress();
        storesToASharedSheet();
        jumpsIfZeroAlone();
        jumps();
        jumpsOutsideAreWildThereOnly();
        comparesEdges();
        placeIsOneMore();
        placeBehind63Is64();
        placeOfOneThatEnded();
        wildAddresses();
        wildAddressesReachNothing();
        wildPlaces();
        wildOps();
        wildCallNumbers();
        wildWithoutParentIsGone();
        sumsWrap();
        CHECKS.end();
    }

    private static void partsOfWords() {
        CHECKS.sentence(Sentence.WORD_PARTS);
        for (int r = 0; r < 4; r++) {
            SheetKernel x = Words.ran(1, Words.set(r, 7));
            for (int i = 0; i < 4; i++) {
                CHECKS.due("REGISTER " + i, i == r ? 7 : 0, x.process(0, 10 + i));
            }
        }
        for (int s = 0; s < 4; s++) {
            SheetKernel x = Words.ran(6, Words.set(0, 1), Words.set(1, 2), Words.set(2, 3), Words.set(3, 4),
                Words.add(0, s), Words.set(1, 9) | 3 << 6);
            CHECKS.registers(x, 0, 2 + s, 9, 3, 4);
        }
    }

    /** By rounding down, -1 has OP 15 and not OP -1, and -249 is a jump to PLACE -1, not to 0. */
    private static void partsOfWordsBelowZero() {
        CHECKS.sentence(Sentence.WORD_PARTS);
        CHECKS.due("-1 is WILD", 1, Words.ran(1, -1).count(13));
        CHECKS.due("-249", -1, Words.ran(1, -249).process(0, 1));
        CHECKS.registers(Words.ran(1, -255), 0, -1, 0, 0, 0);
        CHECKS.registers(Words.ran(1, -256 - 256 + 2 * 16 + 1), 0, 0, 0, -2, 0);
        CHECKS.registers(Words.ran(1, -15), 0, 0, 0, 0, -1);
        CHECKS.registers(Words.ran(2, Words.set(3, 5), -256 + 3 * 64 + 2), 0, 5, 0, 0, 5);
        CHECKS.process(child(Integer.MIN_VALUE), 1, 4, 2, 0, -1, 0, 0, 1);
        CHECKS.due("the greatest WORD is WILD", 1, Words.ran(1, Integer.MAX_VALUE).count(13));
    }

    /** PROCESS 1 is a child of 0, its REGISTERS are -1, 0, 0, 0, and it has done these WORDS. */
    private static SheetKernel child(int... words) {
        SheetKernel x = Words.machine(Words.fork(0));
        Words.lay(x, 0, 1, words);
        x.run(1);
        x.poke(0, 1, Words.jump(1));
        x.run(3 + words.length);
        return x;
    }

    private static void exits() {
        CHECKS.sentence(Sentence.EXIT);
        SheetKernel x = child(Words.set(2, -44), Words.exit(2));
        CHECKS.process(x, 1, 4, 3, 0, -44, 0, 0, 2);
        CHECKS.registers(x, 1, -1, 0, -44, 0);
        CHECKS.page(x, 1, 0, 0, -2, -2, 0, 0, 0);
        CHECKS.due("WILD", 0, x.count(13));
        for (int code : new int[] {Integer.MIN_VALUE, Integer.MAX_VALUE, -99, 0}) {
            SheetKernel y = child(Words.load(3, 1, 4), Words.exit(3), 0, code);
            CHECKS.process(y, 1, 4, 3, 0, code, 0, 0, 2);
        }
    }

    private static void exitOfAnEmptyPage() {
        CHECKS.sentence(Sentence.EXIT);
        SheetKernel x = new SheetKernel();
        x.spawn();
        CHECKS.due("run", 1, x.run(2));
        CHECKS.counts(x, 1, 0, 0, 1, 0, 0, 0, 1);
        CHECKS.due("WILD", 0, x.count(13));
        CHECKS.process(child(0), 1, 4, 2, 0, -1, 0, 0, 1);
    }

    private static void setsEveryNumber() {
        CHECKS.sentence(Sentence.SET);
        SheetKernel x = Words.ran(4, Words.set(0, TOP), Words.set(1, -TOP - 1), Words.set(2, -1), Words.set(3, 1));
        CHECKS.registers(x, 0, TOP, -TOP - 1, -1, 1);
        SheetKernel y = Words.ran(2, Words.set(1, 5), Words.set(1, 0));
        CHECKS.registers(y, 0, 0, 0, 0, 0);
    }

    /** REGISTERS 0 and 1 get these values, and then the INSTRUCTION is done. */
    private static SheetKernel with(int first, int second, int instruction) {
        SheetKernel x = Words.machine(Words.load(0, 3, 6), Words.load(1, 3, 7), instruction);
        Words.lay(x, 0, 6, first, second);
        x.run(3);
        return x;
    }

    private static void addsAndWraps() {
        CHECKS.sentence(Sentence.ADD);
        CHECKS.registers(with(40, -2, Words.add(0, 1)), 0, 38, -2, 0, 0);
        CHECKS.registers(with(40, -2, Words.add(1, 1)), 0, 40, -4, 0, 0);
        CHECKS.sentence(Sentence.PROCESSES_ARE);
        CHECKS.registers(with(Integer.MAX_VALUE, 1, Words.add(0, 1)), 0, Integer.MIN_VALUE, 1, 0, 0);
        CHECKS.registers(with(Integer.MIN_VALUE, -1, Words.add(0, 1)), 0, Integer.MAX_VALUE, -1, 0, 0);
        CHECKS.registers(with(Integer.MIN_VALUE, 0, Words.add(0, 0)), 0, 0, 0, 0, 0);
    }

    private static void subtractsAndWraps() {
        CHECKS.sentence(Sentence.SUBTRACT);
        CHECKS.registers(with(40, -2, Words.subtract(0, 1)), 0, 42, -2, 0, 0);
        CHECKS.registers(with(40, -2, Words.subtract(1, 1)), 0, 40, 0, 0, 0);
        CHECKS.sentence(Sentence.PROCESSES_ARE);
        CHECKS.registers(with(Integer.MIN_VALUE, 1, Words.subtract(0, 1)), 0, Integer.MAX_VALUE, 1, 0, 0);
        CHECKS.registers(with(0, Integer.MIN_VALUE, Words.subtract(0, 1)), 0, Integer.MIN_VALUE,
            Integer.MIN_VALUE, 0, 0);
    }

    private static void loadsFirstAndLastAddress() {
        CHECKS.sentence(Sentence.LOAD);
        SheetKernel x = Words.machine(Words.set(1, 70), Words.load(2, 1, -70), Words.load(3, 1, -7),
            Words.load(1, 1, -7));
        x.poke(0, 63, 77);
        CHECKS.due("run", 4, x.run(4));
        CHECKS.registers(x, 0, 0, 77, Words.set(1, 70), 77);
        CHECKS.page(x, 0, 7, 1, 1, -2, 1, 1, 1);
    }

    private static void loadsFromANewSheet() {
        CHECKS.sentence(Sentence.LOAD);
        SheetKernel x = Words.ran(2, Words.set(1, 5), Words.load(1, 2, 16));
        CHECKS.registers(x, 0, 0, 0, 0, 0);
        CHECKS.page(x, 0, 2, 1, 1, -2, 1, 0, 1);
        CHECKS.due("FAULTS", 2, x.count(7));
    }

    private static void storesAtFirstAndLastAddress() {
        CHECKS.sentence(Sentence.STORE);
        SheetKernel x = Words.machine(Words.set(1, 70), Words.store(1, 1, -7), Words.store(1, 1, -70),
            Words.jump(3));
        CHECKS.due("run", 3, x.run(3));
        CHECKS.due("peek", 70, x.peek(0, 63));
        CHECKS.due("peek", 70, x.peek(0, 0));
        CHECKS.page(x, 0, 7, 1, 1, -2, 1, 1, 1);
        CHECKS.due("FAULTS", 2, x.process(0, 5));
    }

    private static void storesToASharedSheet() {
        CHECKS.sentence(Sentence.STORE);
        SheetKernel x = Words.ran(2, Words.fork(0), Words.store(0, 2, 5), Words.jump(2));
        CHECKS.due("COPIES", 1, x.count(10));
        CHECKS.due("peek", 1, x.peek(0, 5));
        CHECKS.due("peek", 0, x.peek(1, 5));
        CHECKS.page(x, 0, 0, 1, 1, -2, 1, 1, 1);
        CHECKS.page(x, 1, 0, 1, 0, -2, 1, 1, 1);
        x.run(3);
        CHECKS.due("peek", -1, x.peek(1, 5));
        CHECKS.due("COPIES", 1, x.count(10));
    }

    private static void jumpsIfZeroAlone() {
        CHECKS.sentence(Sentence.JUMP_IF_ZERO);
        int[] values = {0, 1, -1, Integer.MIN_VALUE, Integer.MAX_VALUE};
        for (int value : values) {
            SheetKernel x = with(value, 5, Words.jumpIfZero(0, 63));
            CHECKS.due("PLACE with " + value, value == 0 ? 63 : 3, x.process(0, 1));
        }
        CHECKS.due("back to 0", 0, with(0, 5, Words.jumpIfZero(0, 0)).process(0, 1));
        CHECKS.due("by R, not by S", 3, with(5, 0, Words.jumpIfZero(0, 63) | 1 << 6).process(0, 1));
    }

    private static void jumps() {
        CHECKS.sentence(Sentence.JUMP);
        SheetKernel x = Words.machine(Words.jump(63));
        x.poke(0, 63, Words.jump(5));
        x.poke(0, 5, Words.jump(0));
        int[] places = {63, 5, 0, 63};
        for (int place : places) {
            x.run(1);
            CHECKS.due("PLACE", place, x.process(0, 1));
        }
        SheetKernel y = Words.ran(9, Words.jump(0));
        CHECKS.process(y, 0, 1, 0, -2, 0, 0, 1, 9);
    }

    private static void jumpsOutsideAreWildThereOnly() {
        CHECKS.sentence(Sentence.JUMP);
        for (int place : new int[] {-1, 64, TOP, -TOP - 1}) {
            SheetKernel x = Words.ran(1, Words.jump(place));
            CHECKS.process(x, 0, 1, place, -2, 0, 0, 1, 1);
            CHECKS.due("WILD", 0, x.count(13));
            SheetKernel y = Words.ran(1, Words.jumpIfZero(2, place));
            CHECKS.process(y, 0, 1, place, -2, 0, 0, 1, 1);
        }
    }

    private static void comparesEdges() {
        CHECKS.sentence(Sentence.LESS);
        int[][] rows = {{1, 2, 1}, {2, 1, 0}, {2, 2, 0}, {-1, 0, 1}, {0, -1, 0},
            {Integer.MIN_VALUE, Integer.MAX_VALUE, 1}, {Integer.MAX_VALUE, Integer.MIN_VALUE, 0},
            {Integer.MIN_VALUE, Integer.MIN_VALUE, 0}};
        for (int[] row : rows) {
            CHECKS.registers(with(row[0], row[1], Words.less(0, 1)), 0, row[2], row[1], 0, 0);
        }
        CHECKS.registers(with(5, 6, Words.less(1, 1)), 0, 5, 0, 0, 0);
    }

    private static void placeIsOneMore() {
        CHECKS.sentence(Sentence.NEXT_PLACE);
        int[] words = {Words.set(1, 1), Words.add(1, 1), Words.subtract(0, 1), Words.load(2, 3, 0),
            Words.store(2, 3, 20), Words.jumpIfZero(1, 0), Words.less(0, 1), Words.print(1), Words.yieldTurn(),
            Words.sleep(3), Words.await(2), Words.self(2), Words.fork(2)};
        SheetKernel x = Words.machine(words);
        x.poke(0, 20, 1);
        for (int place = 1; place <= words.length; place++) {
            x.run(1);
            CHECKS.due("PLACE", place, x.process(0, 1));
        }
    }

    private static void placeBehind63Is64() {
        CHECKS.sentence(Sentence.NEXT_PLACE);
        SheetKernel x = Words.machine(Words.jump(63));
        x.poke(0, 63, Words.set(1, 1));
        x.run(2);
        CHECKS.process(x, 0, 1, 64, -2, 0, 0, 2, 2);
        CHECKS.due("run", 1, x.run(2));
        CHECKS.due("WILD", 1, x.count(13));
    }

    /** At a WILD PLACE there is no WORD to go behind. */
    private static void placeOfOneThatEnded() {
        CHECKS.sentence(Sentence.NEXT_PLACE);
        CHECKS.due("behind an EXIT", 2, child(Words.exit(0)).process(1, 1));
        CHECKS.due("behind a WILD OP", 2, child(Words.word(15, 0, 0, 0)).process(1, 1));
        CHECKS.due("behind a WILD ADDRESS", 2, child(Words.load(0, 2, 64)).process(1, 1));
        CHECKS.due("at a WILD PLACE", 64, child(Words.jump(64), 0).process(1, 1));
    }

    private static void wildAddresses() {
        CHECKS.sentence(Sentence.WILD);
        int[] wild = {Words.load(1, 2, 64), Words.load(1, 2, -1), Words.store(1, 2, 64), Words.store(1, 2, -1),
            Words.load(1, 0, 0), Words.store(1, 0, 0), Words.load(1, 0, 65), Words.store(1, 0, 65),
            Words.load(1, 2, TOP), Words.store(1, 2, -TOP - 1)};
        for (int w : wild) {
            SheetKernel x = child(w);
            CHECKS.process(x, 1, 4, 2, 0, -99, 0, 0, 1);
            CHECKS.registers(x, 1, -1, 0, 0, 0);
            CHECKS.due("WILD", 1, x.count(13));
        }
        SheetKernel tame = child(Words.load(1, 2, 63), Words.load(1, 0, 1), Words.store(1, 2, 0),
            Words.store(1, 0, 64));
        CHECKS.process(tame, 1, 1, 5, 0, 0, 0, 1, 4);
        CHECKS.due("WILD", 0, tame.count(13));
    }

    private static void wildAddressesReachNothing() {
        CHECKS.sentence(Sentence.WILD);
        SheetKernel x = Words.ran(1, Words.store(1, 2, 64));
        CHECKS.counts(x, 4, 0, 0, 0, 1, 0, 0, 0);
        SheetKernel y = child(Words.store(1, 2, -1));
        CHECKS.due("COPIES by the poke alone", 1, y.count(10));
        CHECKS.due("FAULTS", 1, y.count(7));
    }

    private static void wildPlaces() {
        CHECKS.sentence(Sentence.WILD);
        for (int place : new int[] {64, -1, TOP, -TOP - 1}) {
            SheetKernel x = child(Words.jump(place), 0);
            CHECKS.process(x, 1, 4, place, 0, -99, 0, 0, 2);
            CHECKS.due("WILD", 1, x.count(13));
        }
        for (int place : new int[] {0, 63}) {
            SheetKernel x = Words.machine(Words.jump(place));
            x.poke(0, place, Words.jump(place));
            CHECKS.due("run", 3, x.run(3));
            CHECKS.due("WILD", 0, x.count(13));
        }
    }

    private static void wildOps() {
        CHECKS.sentence(Sentence.WILD);
        for (int op = 10; op < 16; op++) {
            SheetKernel x = child(Words.word(op, 1, 2, 0));
            CHECKS.process(x, 1, 4, 2, 0, -99, 0, 0, 1);
            CHECKS.due("WILD", 1, x.count(13));
        }
        SheetKernel tame = child(Words.less(1, 1));
        CHECKS.process(tame, 1, 1, 2, 0, 0, 0, 0, 1);
    }

    private static void wildCallNumbers() {
        CHECKS.sentence(Sentence.WILD);
        for (int n : new int[] {6, 7, -1, 255, 256, TOP, -TOP - 1}) {
            SheetKernel x = child(Words.word(8, 1, 1, n));
            CHECKS.process(x, 1, 4, 2, 0, -99, 0, 0, 1);
            CHECKS.due("WILD", 1, x.count(13));
        }
        CHECKS.process(child(Words.word(8, 1, 1, 5)), 1, 1, 2, 0, 0, 0, 0, 1);
        CHECKS.process(child(Words.word(8, 1, 1, 0)), 1, 1, 2, 0, 0, 0, 0, 1);
    }

    private static void wildWithoutParentIsGone() {
        CHECKS.sentence(Sentence.WILD);
        SheetKernel x = Words.ran(1, Words.word(10, 0, 0, 0));
        CHECKS.process(x, 0, 0, 0, 0, 0, 0, 0, 0);
        CHECKS.counts(x, 1, 0, 0, 1, 0, 0);
        CHECKS.due("WILD", 1, x.count(13));
    }

    /** No sum can wrap as far as to 0 to 63 again: those beyond the ends are WILD on both sides. */
    private static void sumsWrap() {
        CHECKS.sentence(Sentence.SUMS_WRAP);
        int[][] rows = {{Integer.MAX_VALUE, 1}, {Integer.MAX_VALUE, TOP}, {Integer.MIN_VALUE, -1},
            {Integer.MIN_VALUE, -TOP - 1}};
        for (int[] row : rows) {
            CHECKS.due("WILD load", 1, with(row[0], 5, Words.load(2, 0, row[1])).count(13));
            CHECKS.due("WILD store", 1, with(row[0], 5, Words.store(2, 0, row[1])).count(13));
        }
        CHECKS.registers(with(TOP + 1 + 7, 99, Words.load(2, 0, -TOP - 1)), 0, TOP + 8, 99, 99, 0);
        CHECKS.registers(with(7 - TOP, 99, Words.load(2, 0, TOP)), 0, 7 - TOP, 99, 99, 0);
    }
}
