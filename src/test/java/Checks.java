/** Compares answers with those that are due, and tells in the end whether all were right. */
final class Checks {
    private final String name;
    private int asked;
    private int wrong;

    Checks(String name) {
        this.name = name;
    }

    void due(String call, long want, long got) {
        asked++;
        if (got != want) {
            wrong++;
            System.out.println(name + ": " + call + " answered " + got + ", due is " + want);
        }
    }

    void due(String call, boolean want, boolean got) {
        due(call, want ? 1 : 0, got ? 1 : 0);
    }

    /** Asks for what 0, 1, 2 .. of a PAGE: lies where, FRAME, SLOT, USED, CHANGED, PAGES. */
    void page(SheetKernel x, int p, int k, int... wants) {
        for (int what = 0; what < wants.length; what++) {
            due("page(" + p + ", " + k + ", " + what + ")", wants[what], x.page(p, k, what));
        }
    }

    /** Asks for what 0, 1, 2 .. of a PROCESS: STATE, PLACE, PARENT, CODE, sleep, FAULTS, begun. */
    void process(SheetKernel x, int p, int... wants) {
        for (int what = 0; what < wants.length; what++) {
            due("process(" + p + ", " + what + ")", wants[what], x.process(p, what));
        }
    }

    void registers(SheetKernel x, int p, int... wants) {
        for (int r = 0; r < wants.length; r++) {
            due("process(" + p + ", 10 + " + r + ")", wants[r], x.process(p, 10 + r));
        }
    }

    void counts(SheetKernel x, int first, int... wants) {
        for (int i = 0; i < wants.length; i++) {
            due("count(" + (first + i) + ")", wants[i], x.count(first + i));
        }
    }

    void printed(SheetKernel x, int... wants) {
        due("count(12)", wants.length, x.count(12));
        for (int k = 0; k < wants.length; k++) {
            due("printed(" + k + ")", wants[k], x.printed(k));
        }
        due("printed(" + wants.length + ")", 0, x.printed(wants.length));
    }

    void end() {
        System.out.println(name + ": " + asked + " answers, " + wrong + " of them wrong");
        if (asked == 0 || wrong != 0) {
            System.exit(1);
        }
    }
}
