import java.util.EnumMap;
import java.util.Map;

/** Compares answers with those that are due, and tells in the end whether all were right. */
final class Checks {
    private final String name;
    private final Map<Sentence, Integer> held = new EnumMap<>(Sentence.class);
    private Sentence sentence;
    private int asked;
    private int wrong;

    Checks(String name) {
        this.name = name;
    }

    /** What is asked for from here on is what this sentence of the document says. */
    void sentence(Sentence next) {
        sentence = next;
        held.putIfAbsent(next, 0);
    }

    void due(String call, long want, long got) {
        asked++;
        if (sentence != null) {
            held.merge(sentence, 1, Integer::sum);
        }
        if (got != want) {
            wrong++;
            System.out.println(name + ": " + call + " answered " + got + ", due is " + want
                + (sentence == null ? "" : "\n  by " + sentence));
        }
    }

    void due(String call, boolean want, boolean got) {
        due(call, want ? 1 : 0, got ? 1 : 0);
    }

    /** Asks for what 0, 1, 2 .. of a PAGE: lies where, FRAME, SLOT, USED, CHANGED, PAGES. */
    void page(SheetKernel x, int p, int k, int... wants) {
        for (int what = 0; what < wants.length; what++) {
            due("page(" + p + ", " + k + ", " + what + ")", wants[what], x.page(p, k, what));
        }
    }

    /** Asks for what 0, 1, 2 .. of a PROCESS: STATE, PLACE, PARENT, CODE, sleep, FAULTS, begun. */
    void process(SheetKernel x, int p, int... wants) {
        for (int what = 0; what < wants.length; what++) {
            due("process(" + p + ", " + what + ")", wants[what], x.process(p, what));
        }
    }

    void registers(SheetKernel x, int p, int... wants) {
        for (int r = 0; r < wants.length; r++) {
            due("process(" + p + ", 10 + " + r + ")", wants[r], x.process(p, 10 + r));
        }
    }

    void counts(SheetKernel x, int first, int... wants) {
        for (int i = 0; i < wants.length; i++) {
            due("count(" + (first + i) + ")", wants[i], x.count(first + i));
        }
    }

    void printed(SheetKernel x, int... wants) {
        due("count(12)", wants.length, x.count(12));
        for (int k = 0; k < wants.length; k++) {
            due("printed(" + k + ")", wants[k], x.printed(k));
        }
        due("printed(" + wants.length + ")", 0, x.printed(wants.length));
    }

    /** Asks both for all but a part of their WORDS: 287 calls of each, of the 512 that it has. */
    void alike(String when, SheetKernel want, SheetKernel got) {
        for (int what = 0; what < 14; what++) {
            due(when + ": count(" + what + ")", want.count(what), got.count(what));
        }
        for (int k = 0; k < 5; k++) {
            due(when + ": printed(" + k + ")", want.printed(k), got.printed(k));
        }
        for (int p = 0; p < 4; p++) {
            for (int what = 0; what < 14; what += what == 6 ? 4 : 1) {
                due(when + ": process(" + p + ", " + what + ")", want.process(p, what), got.process(p, what));
            }
            for (int k = 0; k < 8; k++) {
                due(when + ": peek(" + p + ", " + 9 * k + ")", want.peek(p, 9 * k), got.peek(p, 9 * k));
                for (int what = 0; what < 6; what++) {
                    due(when + ": page(" + p + ", " + k + ", " + what + ")", want.page(p, k, what),
                        got.page(p, k, what));
                }
            }
        }
    }

    void end() {
        for (Map.Entry<Sentence, Integer> row : held.entrySet()) {
            if (row.getValue() == 0) {
                wrong++;
                System.out.println(name + ": nothing was asked for by " + row.getKey());
            }
        }
        System.out.println(name + ": " + asked + " answers, " + wrong + " of them wrong");
        if (asked == 0 || wrong != 0) {
            System.exit(1);
        }
    }
}
