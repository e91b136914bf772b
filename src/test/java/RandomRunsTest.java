import java.util.Random;

/** All promises: runs of calls from fixed seeds, answered by the program and by PlainMachine. */
public final class RandomRunsTest {
    private static final Checks CHECKS = new Checks("RandomRunsTest");
    private static final int RUNS = 3000;
    private static final int CALLS = 512;

    private final Random random;
    private final String name;
    private final SheetKernel x = new SheetKernel();
    private final PlainMachine plain = new PlainMachine();
    /** How many of 100 calls ask for something only; runs differ in it. */
    private final int asking;
    private final int wildness;
    /** Jumps and first pokes keep below it, so that programs live long. */
    private final int reach;
    private int calls;

    private RandomRunsTest(int seed) {
        random = new Random(seed);
        name = "seed " + seed + ": ";
        asking = 20 + random.nextInt(60);
        wildness = random.nextInt(4);
        reach = 4 + random.nextInt(20);
    }

    public static void main(String[] args) {
        for (int seed = 0; seed < RUNS; seed++) {
            new RandomRunsTest(seed).allCalls();
        }
        CHECKS.end();
    }

    private void allCalls() {
        while (calls < CALLS) {
            if (random.nextInt(100) < asking) {
                ask();
            } else {
                change();
            }
        }
    }

    private void due(String call, long want, long got) {
        calls++;
        CHECKS.due(name + call, want, got);
    }

    private int number(int bound) {
        int[] edges = {-1, bound, Integer.MIN_VALUE, Integer.MAX_VALUE};
        return random.nextInt(60) == 0 ? edges[random.nextInt(4)] : random.nextInt(bound);
    }

    private int pokeWord() {
        int r = random.nextInt(4);
        int s = random.nextInt(4);
        if (random.nextInt(100) < wildness) {
            return random.nextInt();
        }
        switch (random.nextInt(14)) {
            case 0: return Words.word(1 + random.nextInt(9), r, s, random.nextInt(6));
            case 1: return Words.set(r, random.nextInt(64));
            case 2: return Words.set(r, random.nextInt(12) - 2);
            case 3: return random.nextBoolean() ? Words.add(r, s) : Words.subtract(r, s);
            case 4: return Words.load(r, s, random.nextInt(56));
            case 5: return Words.store(r, s, random.nextInt(56));
            case 6: return Words.store(r, s, random.nextInt(56));
            case 7: return Words.jumpIfZero(r, random.nextInt(reach));
            case 8: return random.nextInt(6) == 0 ? Words.exit(r) : Words.jump(random.nextInt(reach));
            case 9: return Words.less(r, s);
            case 10: return Words.fork(r);
            case 11: return Words.await(r);
            case 12: return Words.sleep(r);
            default: return Words.word(8, r, s, random.nextInt(6));
        }
    }

    private void change() {
        int p = number(4);
        int kind = random.nextInt(40);
        if (kind < 3) {
            spawn();
        } else if (kind < 4) {
            due("kill(" + p + ")", plain.kill(p) ? 1 : 0, x.kill(p) ? 1 : 0);
        } else if (kind < 24) {
            int n = random.nextInt(4) == 0 ? number(41) : 1 + random.nextInt(5);
            due("run(" + n + ")", plain.run(n), x.run(n));
        } else {
            poke(p, random.nextInt(3) == 0 ? number(64) : number(reach), pokeWord());
        }
    }

    private void spawn() {
        int p = plain.spawn();
        due("spawn()", p, x.spawn());
        if (p >= 0) {
            for (int a = 0; a < reach && calls < CALLS; a++) {
                poke(p, a, a == reach - 1 ? Words.jump(0) : pokeWord());
            }
        }
    }

    private void poke(int p, int a, int w) {
        due("poke(" + p + ", " + a + ", " + w + ")", plain.poke(p, a, w), x.poke(p, a, w));
    }

    private void ask() {
        int p = number(4);
        int k = number(8);
        int a = number(64);
        int kind = random.nextInt(20);
        if (kind < 5) {
            int what = number(14);
            due("process(" + p + ", " + what + ")", plain.process(p, what), x.process(p, what));
        } else if (kind < 12) {
            int what = number(6);
            due("page(" + p + ", " + k + ", " + what + ")", plain.page(p, k, what), x.page(p, k, what));
        } else if (kind < 15) {
            due("peek(" + p + ", " + a + ")", plain.peek(p, a), x.peek(p, a));
        } else if (kind < 16) {
            int value = number(42);
            due("printed(" + value + ")", plain.printed(value), x.printed(value));
        } else {
            int what = number(14);
            due("count(" + what + ")", plain.count(what), x.count(what));
        }
    }
}
