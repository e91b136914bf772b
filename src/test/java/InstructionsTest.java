/** Promise 6: what each INSTRUCTION does, and which are WILD. */
public final class InstructionsTest {
    private static final Checks CHECKS = new Checks("InstructionsTest");
    private static final int TOP = (1 << 23) - 1;

    public static void main(String[] args) {
        numbers();
        sums();
        comparisons();
        jumps();
        loadsAndStores();
        wildAddresses();
        wildPlaces();
        wildOps();
        system();
        forks();
        forksWithoutRoom();
        waits();
        waitsForTheLeast();
        sleeps();
        exits();
        reachesAtEachStep();
        CHECKS.end();
    }

    private static void numbers() {
        SheetKernel x = Words.ran(4, Words.set(0, TOP), Words.set(1, -TOP - 1), Words.set(2, -1), Words.set(3, 0));
        CHECKS.registers(x, 0, TOP, -TOP - 1, -1, 0);
        CHECKS.due("PLACE", 4, x.process(0, 1));
        SheetKernel y = Words.ran(1, Words.set(2, 5) | 3 << 6);
        CHECKS.registers(y, 0, 0, 0, 5, 0);
    }

    private static void sums() {
        SheetKernel x = Words.ran(5, Words.set(1, 40), Words.set(2, -2), Words.add(1, 2), Words.subtract(3, 1),
            Words.subtract(2, 2));
        CHECKS.registers(x, 0, 0, 38, 0, -38);
        SheetKernel y = Words.machine(Words.load(0, 3, 20), Words.load(1, 3, 21), Words.add(1, 0),
            Words.subtract(0, 1), Words.add(0, 0));
        Words.lay(y, 0, 20, Integer.MAX_VALUE, 1);
        y.run(3);
        CHECKS.registers(y, 0, Integer.MAX_VALUE, Integer.MIN_VALUE, 0, 0);
        y.run(1);
        CHECKS.registers(y, 0, -1, Integer.MIN_VALUE, 0, 0);
        y.run(1);
        CHECKS.registers(y, 0, -2, Integer.MIN_VALUE, 0, 0);
    }

    private static void comparisons() {
        int[][] rows = {{1, 2, 1}, {2, 1, 0}, {2, 2, 0}, {-1, 0, 1}, {0, -1, 0},
            {Integer.MIN_VALUE, Integer.MAX_VALUE, 1}, {Integer.MAX_VALUE, Integer.MIN_VALUE, 0}};
        for (int[] row : rows) {
            SheetKernel x = Words.machine(Words.load(1, 0, 10), Words.load(2, 0, 11), Words.less(1, 2));
            Words.lay(x, 0, 10, row[0], row[1]);
            x.run(3);
            CHECKS.registers(x, 0, 0, row[2], row[1], 0);
        }
    }

    private static void jumps() {
        SheetKernel x = Words.machine(Words.jumpIfZero(2, 40));
        Words.lay(x, 0, 40, Words.set(2, 1), Words.jumpIfZero(2, 0), Words.jump(63));
        x.poke(0, 63, Words.jump(5));
        x.poke(0, 5, Words.jump(5));
        int[] places = {40, 41, 42, 63, 5, 5};
        for (int place : places) {
            x.run(1);
            CHECKS.due("PLACE", place, x.process(0, 1));
        }
    }

    private static void loadsAndStores() {
        SheetKernel x = Words.machine(Words.set(1, 70), Words.store(1, 1, -7), Words.load(2, 1, -7),
            Words.store(2, 0, 0), Words.load(3, 1, -70), Words.load(3, 1, -14));
        CHECKS.due("run", 5, x.run(5));
        CHECKS.registers(x, 0, 0, 70, 70, 70);
        CHECKS.due("peek", 70, x.peek(0, 63));
        CHECKS.due("peek", 70, x.peek(0, 0));
        CHECKS.page(x, 0, 7, 1, 1, -2, 1, 1, 1);
        CHECKS.due("FAULTS", 2, x.process(0, 5));
        x.run(1);
        CHECKS.registers(x, 0, 0, 70, 70, 0);
        SheetKernel y = Words.ran(1, Words.load(1, 1, 16));
        CHECKS.page(y, 0, 2, 1, 1, -2, 1, 0, 1);
        CHECKS.due("FAULTS", 2, y.count(7));
    }

    /** The WORDS from ADDRESS 1 on are those of a child that does the last of them as WILD. */
    private static SheetKernel wildChild(int... words) {
        SheetKernel x = Words.machine(Words.fork(0));
        Words.lay(x, 0, 1, words);
        x.run(1);
        x.poke(0, 1, Words.jump(1));
        x.run(3 + words.length);
        return x;
    }

    private static void wildAddresses() {
        int[] wild = {Words.load(1, 2, 64), Words.load(1, 2, -1), Words.store(1, 2, 64), Words.store(1, 2, -1),
            Words.load(1, 0, 0), Words.store(1, 0, 0), Words.load(1, 2, TOP), Words.store(1, 2, -TOP - 1)};
        for (int w : wild) {
            SheetKernel x = wildChild(w);
            CHECKS.process(x, 1, 4, 2, 0, -99, 0, 0, 1);
            CHECKS.registers(x, 1, -1, 0, 0, 0);
            CHECKS.due("WILD", 1, x.count(13));
            CHECKS.due("only the parent's SHEET is left", 1, x.count(4));
        }
        SheetKernel tame = wildChild(Words.load(1, 2, 63), Words.load(1, 0, 1));
        CHECKS.process(tame, 1, 1, 3, 0, 0, 0, 1, 2);
        sumsOfAddressesWrap();
    }

    private static void sumsOfAddressesWrap() {
        SheetKernel x = Words.machine(Words.load(1, 0, 20), Words.load(2, 0, 21), Words.load(3, 1, 20),
            Words.load(3, 2, TOP));
        Words.lay(x, 0, 20, Integer.MAX_VALUE, Integer.MAX_VALUE - TOP + 1);
        CHECKS.due("run", 3, x.run(4));
        CHECKS.due("WILD", 1, x.count(13));
        SheetKernel y = Words.machine(Words.load(1, 0, 20), Words.load(3, 1, -TOP - 1));
        Words.lay(y, 0, 20, TOP + 1 + 21, 99);
        y.run(2);
        CHECKS.due("register", 99, y.process(0, 13));
    }

    private static void wildPlaces() {
        for (int place : new int[] {64, -1, TOP, -TOP - 1}) {
            SheetKernel x = wildChild(Words.jump(place), 0);
            CHECKS.process(x, 1, 4, place, 0, -99, 0, 0, 2);
            CHECKS.due("WILD", 1, x.count(13));
        }
        SheetKernel x = Words.machine(Words.jump(63));
        x.poke(0, 63, Words.set(1, 1));
        CHECKS.due("run", 3, x.run(4));
        CHECKS.due("WILD", 1, x.count(13));
        CHECKS.due("run", 0, x.run(1));
        CHECKS.due("none is there", 0, x.count(1));
    }

    private static void wildOps() {
        for (int op = 10; op < 16; op++) {
            CHECKS.process(wildChild(Words.word(op, 0, 0, 0)), 1, 4, 2, 0, -99, 0, 0, 1);
        }
        for (int n : new int[] {6, -1, 7, 255, 256, TOP, -TOP - 1}) {
            CHECKS.process(wildChild(Words.word(8, 1, 1, n)), 1, 4, 2, 0, -99, 0, 0, 1);
        }
        CHECKS.process(wildChild(-1), 1, 4, 2, 0, -99, 0, 0, 1);
        CHECKS.process(wildChild(Integer.MIN_VALUE), 1, 4, 2, 0, -1, 0, 0, 1);
    }

    private static void system() {
        SheetKernel x = new SheetKernel();
        x.spawn();
        x.spawn();
        x.kill(0);
        Words.lay(x, 1, 0, Words.set(1, -5), Words.print(1), Words.self(1), Words.print(1), Words.print(3),
            Words.yieldTurn());
        x.run(6);
        CHECKS.printed(x, -5, 1, 0);
        CHECKS.process(x, 1, 1, 6, -2, 0, 0, 1, 6);
        CHECKS.registers(x, 1, 0, 1, 0, 0);
    }

    private static void forks() {
        SheetKernel x = Words.machine(Words.set(0, 1), Words.set(1, 2), Words.set(2, 3), Words.set(3, 4),
            Words.fork(2), Words.jump(5));
        x.poke(0, 20, 77);
        x.spawn();
        x.poke(1, 0, Words.jump(0));
        x.run(9);
        CHECKS.registers(x, 0, 1, 2, 2, 4);
        CHECKS.registers(x, 2, 1, 2, -1, 4);
        CHECKS.process(x, 0, 1, 5, -2, 0, 0, 2, 5);
        CHECKS.process(x, 2, 1, 5, 0, 0, 0, 0, 0);
        CHECKS.page(x, 0, 0, 1, 0, -2, 1, 1, 2);
        CHECKS.page(x, 2, 0, 1, 0, -2, 1, 1, 2);
        CHECKS.page(x, 2, 1, 0, -2, -2, 0, 0, 0);
        CHECKS.page(x, 2, 2, 1, 1, -2, 1, 1, 2);
        CHECKS.due("peek", 77, x.peek(2, 20));
        CHECKS.counts(x, 4, 3, 0, 0, 3, 0, 0, 0);
        SheetKernel last = Words.machine(Words.jump(63));
        last.poke(0, 63, Words.fork(1));
        last.run(2);
        CHECKS.process(last, 1, 1, 64, 0, 0, 0, 0, 0);
    }

    private static void forksWithoutRoom() {
        SheetKernel x = Words.machine(Words.fork(1), Words.jump(1));
        for (int p = 1; p < 4; p++) {
            x.spawn();
        }
        x.poke(3, 0, Words.jump(0));
        x.run(5);
        CHECKS.counts(x, 1, 4, 0, 1);
        CHECKS.registers(x, 0, 0, -2, 0, 0);
        CHECKS.page(x, 0, 0, 1, 0, -2, 1, 1, 1);
    }

    private static void waits() {
        SheetKernel x = Words.ran(1, Words.await(3), Words.fork(0), Words.await(2), Words.await(2));
        CHECKS.registers(x, 0, 0, 0, 0, -2);
        CHECKS.process(x, 0, 1, 1, -2, 0, 0, 1, 1);
        x.run(1);
        Words.lay(x, 1, 2, Words.set(1, 6), Words.exit(1));
        CHECKS.due("run", 1, x.run(1));
        CHECKS.process(x, 0, 3, 2, -2, 0, 0, 1, 3);
        CHECKS.registers(x, 0, 1, 0, 0, -2);
        CHECKS.counts(x, 2, 0, 3);
        x.run(1);
        CHECKS.due("it WAITS", 3, x.process(0, 0));
        x.run(1);
        CHECKS.process(x, 1, 4, 4, 0, 6, 0, 0, 2);
        CHECKS.process(x, 0, 1, 2, -2, 0, 0, 1, 3);
        x.run(1);
        CHECKS.registers(x, 0, 1, 0, 6, -2);
        CHECKS.due("the child is gone", 0, x.process(1, 0));
        CHECKS.counts(x, 1, 1, 0, 1);
        x.run(1);
        CHECKS.registers(x, 0, 1, 0, -2, -2);
        CHECKS.process(x, 0, 1, 4, -2, 0, 0, 1, 5);
    }

    private static void waitsForTheLeast() {
        SheetKernel x = Words.ran(1, Words.fork(0), Words.fork(1), Words.await(2), Words.await(3), Words.jump(4));
        x.poke(1, 1, Words.jump(1));
        x.run(1);
        CHECKS.counts(x, 1, 3, 0, 2);
        x.poke(2, 2, Words.exit(1));
        x.kill(2);
        x.kill(1);
        x.run(1);
        CHECKS.due("the least is gone", 0, x.process(1, 0));
        CHECKS.due("the other is DEAD yet", 4, x.process(2, 0));
        x.run(1);
        CHECKS.due("the other is gone, too", 0, x.process(2, 0));
        CHECKS.registers(x, 0, 1, 2, -9, -9);
        othersAreNotWaitedFor();
    }

    private static void othersAreNotWaitedFor() {
        SheetKernel x = Words.parentAndChild();
        CHECKS.due("spawn", 2, x.spawn());
        Words.lay(x, 2, 0, Words.await(1), Words.jump(1));
        x.kill(1);
        x.run(4);
        CHECKS.registers(x, 2, 0, -2, 0, 0);
        CHECKS.due("DEAD yet", 4, x.process(1, 0));
    }

    private static void sleeps() {
        for (int ticks : new int[] {0, -1, -TOP - 1}) {
            SheetKernel x = Words.ran(2, Words.set(1, ticks), Words.sleep(1), Words.jump(2));
            CHECKS.process(x, 0, 1, 2, -2, 0, 0, 1, 2);
            CHECKS.counts(x, 2, 0, 2);
        }
        SheetKernel x = Words.ran(2, Words.set(1, 1), Words.sleep(1), Words.jump(2));
        CHECKS.process(x, 0, 2, 2, -2, 0, 1, 1, 2);
        CHECKS.due("run", 1, x.run(1));
        CHECKS.process(x, 0, 1, 2, -2, 0, 0, 1, 3);
        SheetKernel y = Words.machine(Words.load(1, 0, 7), Words.sleep(1));
        y.poke(0, 7, Integer.MAX_VALUE);
        CHECKS.due("run", 2, y.run(40));
        CHECKS.due("sleeps yet", Integer.MAX_VALUE - 38, y.process(0, 4));
    }

    private static void exits() {
        SheetKernel x = wildChild(Words.set(2, -44), Words.exit(2));
        CHECKS.process(x, 1, 4, 3, 0, -44, 0, 0, 2);
        CHECKS.registers(x, 1, -1, 0, -44, 0);
        CHECKS.page(x, 1, 0, 0, -2, -2, 0, 0, 0);
        CHECKS.due("WILD", 0, x.count(13));
        CHECKS.due("EXIT alone", 1, Words.machine(Words.exit(0)).run(9));
    }

    private static void reachesAtEachStep() {
        SheetKernel x = Words.parentAndChild();
        Words.lay(x, 1, 1, Words.store(1, 2, 3), Words.jump(2));
        CHECKS.due("COPIES", 1, x.count(10));
        SheetKernel y = Words.ran(1, Words.fork(0), Words.store(0, 2, 5), Words.jump(2));
        y.run(1);
        CHECKS.due("COPIES", 1, y.count(10));
        CHECKS.due("peek", 1, y.peek(0, 5));
        CHECKS.due("peek", 0, y.peek(1, 5));
        CHECKS.page(y, 0, 0, 1, 1, -2, 1, 1, 1);
        CHECKS.page(y, 1, 0, 1, 0, -2, 1, 1, 1);
        y.run(3);
        CHECKS.due("COPIES", 1, y.count(10));
        unchangedGoesOutWithoutSlot();
    }

    private static void unchangedGoesOutWithoutSlot() {
        SheetKernel x = Words.machine(Words.load(1, 2, 8), Words.load(1, 2, 16), Words.load(1, 2, 24),
            Words.load(1, 2, 32), Words.load(1, 2, 40), Words.load(1, 2, 48), Words.load(1, 2, 8));
        x.run(6);
        CHECKS.counts(x, 4, 6, 1, 1, 7, 1, 0, 0);
        CHECKS.page(x, 0, 0, 2, -2, 0, 0, 0, 1);
        CHECKS.page(x, 0, 6, 1, 0, -2, 1, 0, 1);
        x.run(1);
        CHECKS.counts(x, 4, 6, 1, 3, 9, 1, 1, 0);
        CHECKS.page(x, 0, 0, 1, 1, 0, 1, 0, 1);
        CHECKS.page(x, 0, 1, 1, 2, -2, 1, 0, 1);
        CHECKS.page(x, 0, 2, 2, -2, -2, 0, 0, 1);
        CHECKS.due("FAULTS", 9, x.process(0, 5));
    }
}
