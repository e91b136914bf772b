/** The INSTRUCTIONS as WORDS, and ways to lay them in a PROCESS. */
final class Words {
    private Words() {
    }

    static int word(int op, int r, int s, int n) {
        return (n << 8) | (s << 6) | (r << 4) | op;
    }

    static int exit(int r) {
        return word(0, r, 0, 0);
    }

    static int set(int r, int n) {
        return word(1, r, 0, n);
    }

    static int add(int r, int s) {
        return word(2, r, s, 0);
    }

    static int subtract(int r, int s) {
        return word(3, r, s, 0);
    }

    static int load(int r, int s, int n) {
        return word(4, r, s, n);
    }

    static int store(int r, int s, int n) {
        return word(5, r, s, n);
    }

    static int jumpIfZero(int r, int n) {
        return word(6, r, 0, n);
    }

    static int jump(int n) {
        return word(7, 0, 0, n);
    }

    static int less(int r, int s) {
        return word(9, r, s, 0);
    }

    static int print(int r) {
        return word(8, r, 0, 0);
    }

    static int fork(int r) {
        return word(8, r, 0, 1);
    }

    static int yieldTurn() {
        return word(8, 0, 0, 2);
    }

    static int sleep(int r) {
        return word(8, r, 0, 3);
    }

    static int await(int r) {
        return word(8, r, 0, 4);
    }

    static int self(int r) {
        return word(8, r, 0, 5);
    }

    static void lay(SheetKernel x, int p, int place, int... words) {
        for (int i = 0; i < words.length; i++) {
            x.poke(p, place + i, words[i]);
        }
    }

    /** A new object whose PROCESS 0 has these WORDS from ADDRESS 0 on. */
    static SheetKernel machine(int... words) {
        SheetKernel x = new SheetKernel();
        x.spawn();
        lay(x, 0, 0, words);
        return x;
    }

    /** A machine whose PROCESS 0 has done this program's first ticks INSTRUCTIONS. */
    static SheetKernel ran(int ticks, int... words) {
        SheetKernel x = machine(words);
        x.run(ticks);
        return x;
    }

    /** PROCESS 1 is a child of PROCESS 0; both are about to loop at PLACE 1. */
    static SheetKernel parentAndChild() {
        return ran(1, fork(0), jump(1));
    }

    /** PROCESS 0 is a child of PROCESS 1, which is about to WAIT by REGISTER 2, and so is the child. */
    static SheetKernel parentOfZero() {
        SheetKernel x = new SheetKernel();
        x.spawn();
        x.spawn();
        lay(x, 1, 0, fork(1), await(2), jump(2));
        x.kill(0);
        x.run(1);
        return x;
    }

    /** PROCESS 0 with PAGES 0 to 5 in FRAMES 0 to 5, all USED and CHANGED, the HAND at FRAME 0. */
    static SheetKernel fullFrames() {
        SheetKernel x = new SheetKernel();
        x.spawn();
        for (int k = 0; k < 6; k++) {
            x.poke(0, 8 * k, 100 + k);
        }
        return x;
    }

    /** PROCESSES 0 and 2 SLEEP, 1 is DEAD, 3 is not there; no count is 0. */
    static SheetKernel busy() {
        SheetKernel x = machine(fork(0), fork(1), set(2, 30), print(2), sleep(2), jump(5));
        x.run(4);
        x.kill(1);
        x.run(6);
        for (int k = 1; k < 8; k++) {
            x.poke(0, 9 * k, k);
        }
        x.poke(2, 9, 5);
        x.poke(2, 7, 6);
        x.poke(2, 18, 7);
        x.spawn();
        x.poke(3, 0, word(15, 0, 0, 0));
        x.run(1);
        return x;
    }
}
