import java.util.ArrayList;
import java.util.HashMap;
import java.util.List;
import java.util.Map;

/**
 * The document once more, word by word and without care for room: FRAMES and SLOTS hold WORDS of
 * their own, and whom a SHEET belongs to is looked up each time. RandomRunsTest holds the program
 * against it.
 */
final class PlainMachine {
    static final class Leaf {
        Integer frame;
        Integer slot;
        boolean used;
        boolean changed;
    }

    static final class Proc {
        int[] registers = new int[4];
        int place;
        Integer parent;
        String state = "READY";
        int code;
        long wakesAt;
        int faults;
        int begun;
        Map<Integer, Leaf> pages = new HashMap<>();
    }

    private final Map<Integer, Proc> procs = new HashMap<>();
    private final Leaf[] inFrame = new Leaf[6];
    private final int[][] frameWords = new int[6][8];
    private final int[][] slotWords = new int[32][8];
    private final List<Integer> values = new ArrayList<>();
    private int hand;
    private int faults;
    private int writes;
    private int reads;
    private int copies;
    private int time;
    private int idle;
    private int wild;
    private int turn = 3;
    private int done;
    private boolean over;

    private List<Leaf> leaves() {
        List<Leaf> all = new ArrayList<>();
        for (Proc proc : procs.values()) {
            all.addAll(proc.pages.values());
        }
        return all;
    }

    private int belongs(Leaf leaf) {
        int pages = 0;
        for (Leaf other : leaves()) {
            pages += other == leaf ? 1 : 0;
        }
        return pages;
    }

    private Leaf inSlot(int slot) {
        for (Leaf leaf : leaves()) {
            if (leaf.slot != null && leaf.slot == slot) {
                return leaf;
            }
        }
        return null;
    }

    private void dropGone() {
        List<Leaf> all = leaves();
        for (int f = 0; f < 6; f++) {
            if (inFrame[f] != null && !all.contains(inFrame[f])) {
                inFrame[f] = null;
            }
        }
    }

    private int[] wordsOf(Leaf leaf) {
        if (leaf == null) {
            return new int[8];
        }
        if (leaf.frame != null) {
            return frameWords[leaf.frame];
        }
        return leaf.slot != null ? slotWords[leaf.slot] : new int[8];
    }

    private Leaf reach(Proc proc, int k, boolean write) {
        proc.pages.putIfAbsent(k, new Leaf());
        Leaf leaf = proc.pages.get(k);
        if (write && belongs(leaf) > 1) {
            bringIn(proc, leaf, null);
            int[] words = wordsOf(leaf).clone();
            leaf = new Leaf();
            proc.pages.put(k, leaf);
            bringIn(proc, leaf, words);
            leaf.changed = true;
            copies++;
        } else {
            bringIn(proc, leaf, null);
        }
        leaf.used = true;
        leaf.changed |= write;
        return leaf;
    }

    private void bringIn(Proc proc, Leaf leaf, int[] copied) {
        if (leaf.frame != null) {
            return;
        }
        if (copied == null) {
            proc.faults++;
            faults++;
        }
        int frame = 0;
        while (frame < 6 && inFrame[frame] != null) {
            frame++;
        }
        if (frame == 6) {
            while (inFrame[hand].used) {
                inFrame[hand].used = false;
                hand = hand == 5 ? 0 : hand + 1;
            }
            goOut(inFrame[hand]);
            frame = hand;
            hand = hand == 5 ? 0 : hand + 1;
        }
        if (leaf.slot != null) {
            reads++;
        }
        frameWords[frame] = copied != null ? copied : wordsOf(leaf).clone();
        inFrame[frame] = leaf;
        leaf.frame = frame;
    }

    private void goOut(Leaf leaf) {
        if (leaf.changed) {
            if (leaf.slot == null) {
                int slot = 0;
                while (inSlot(slot) != null) {
                    slot++;
                }
                leaf.slot = slot;
            }
            slotWords[leaf.slot] = frameWords[leaf.frame].clone();
            writes++;
            leaf.changed = false;
        }
        inFrame[leaf.frame] = null;
        leaf.frame = null;
    }

    private void end(int p, int code) {
        Proc proc = procs.get(p);
        proc.pages.clear();
        dropGone();
        for (int c = 0; c < 4; c++) {
            Proc child = procs.get(c);
            if (child != null && child.parent != null && child.parent == p) {
                child.parent = null;
                if (child.state.equals("DEAD")) {
                    procs.remove(c);
                }
            }
        }
        proc.state = "DEAD";
        proc.code = code;
        if (proc.parent == null) {
            procs.remove(p);
        } else if (procs.get(proc.parent).state.equals("WAITS")) {
            procs.get(proc.parent).state = "READY";
        }
    }

    private boolean isReady(int p) {
        return procs.containsKey(p) && procs.get(p).state.equals("READY");
    }

    private boolean tick() {
        time++;
        for (Proc proc : procs.values()) {
            if (proc.state.equals("SLEEPS") && proc.wakesAt <= time) {
                proc.state = "READY";
            }
        }
        if (!isReady(turn) || over || done == 4) {
            int next = turn;
            do {
                next = (next + 1) % 4;
            } while (next != turn && !isReady(next));
            if (!isReady(next)) {
                idle++;
                return false;
            }
            turn = next;
            done = 0;
            over = false;
        }
        done++;
        procs.get(turn).begun++;
        if (!instruction(turn, procs.get(turn))) {
            wild++;
            end(turn, -99);
        }
        return true;
    }

    private static boolean outside(int address) {
        return address < 0 || address > 63;
    }

    private boolean instruction(int p, Proc proc) {
        int at = proc.place;
        if (outside(at)) {
            return false;
        }
        int w = wordsOf(reach(proc, at / 8, false))[at % 8];
        int op = Math.floorMod(w, 16);
        int r = Math.floorMod(Math.floorDiv(w, 16), 4);
        int s = Math.floorMod(Math.floorDiv(w, 64), 4);
        int n = Math.floorDiv(w, 256);
        int[] reg = proc.registers;
        int address = reg[s] + n;
        proc.place = at + 1;
        if (op == 0) {
            end(p, reg[r]);
        } else if (op == 1) {
            reg[r] = n;
        } else if (op == 2) {
            reg[r] = reg[r] + reg[s];
        } else if (op == 3) {
            reg[r] = reg[r] - reg[s];
        } else if (op == 4 && !outside(address)) {
            reg[r] = wordsOf(reach(proc, address / 8, false))[address % 8];
        } else if (op == 5 && !outside(address)) {
            wordsOf(reach(proc, address / 8, true))[address % 8] = reg[r];
        } else if (op == 6) {
            proc.place = reg[r] == 0 ? n : at + 1;
        } else if (op == 7) {
            proc.place = n;
        } else if (op == 9) {
            reg[r] = reg[r] < reg[s] ? 1 : 0;
        } else {
            return op == 8 && system(p, proc, r, n);
        }
        return true;
    }

    private boolean system(int p, Proc proc, int r, int n) {
        int[] reg = proc.registers;
        if (n == 0) {
            values.add(reg[r]);
        } else if (n == 1) {
            fork(p, proc, r);
        } else if (n == 2) {
            over = true;
        } else if (n == 3 && reg[r] >= 1) {
            proc.state = "SLEEPS";
            proc.wakesAt = (long) time + reg[r];
        } else if (n == 4) {
            await(p, proc, r);
        } else if (n == 5) {
            reg[r] = p;
        }
        return n >= 0 && n <= 5;
    }

    private void fork(int p, Proc proc, int r) {
        int c = spawn();
        proc.registers[r] = c == -3 ? -2 : c;
        if (c != -3) {
            Proc child = procs.get(c);
            child.parent = p;
            child.registers = proc.registers.clone();
            child.registers[r] = -1;
            child.place = proc.place;
            child.pages.putAll(proc.pages);
        }
    }

    private void await(int p, Proc proc, int r) {
        boolean any = false;
        for (int c = 0; c < 4; c++) {
            Proc child = procs.get(c);
            if (child != null && child.parent != null && child.parent == p) {
                any = true;
                if (child.state.equals("DEAD")) {
                    proc.registers[r] = child.code;
                    procs.remove(c);
                    return;
                }
            }
        }
        if (any) {
            proc.state = "WAITS";
            proc.place = proc.place - 1;
        } else {
            proc.registers[r] = -2;
        }
    }

    private boolean lives(int p) {
        return procs.containsKey(p) && !procs.get(p).state.equals("DEAD");
    }

    int spawn() {
        for (int p = 0; p < 4; p++) {
            if (!procs.containsKey(p)) {
                procs.put(p, new Proc());
                return p;
            }
        }
        return -3;
    }

    int poke(int p, int a, int w) {
        if (!lives(p) || outside(a)) {
            return -1;
        }
        int before = faults;
        wordsOf(reach(procs.get(p), a / 8, true))[a % 8] = w;
        return faults - before;
    }

    int peek(int p, int a) {
        return !lives(p) || outside(a) ? -1 : wordsOf(procs.get(p).pages.get(a / 8))[a % 8];
    }

    boolean kill(int p) {
        boolean lived = lives(p);
        if (lived) {
            end(p, -9);
        }
        return lived;
    }

    int run(int n) {
        int busy = 0;
        for (int i = 0; i < n && n <= 40; i++) {
            busy += tick() ? 1 : 0;
        }
        return n < 1 || n > 40 ? -1 : busy;
    }

    int process(int p, int what) {
        if (p < 0 || p > 3 || what < 0 || what > 13 || (what > 6 && what < 10)) {
            return -1;
        }
        Proc proc = procs.get(p);
        if (proc == null) {
            return 0;
        }
        if (what >= 10) {
            return proc.registers[what - 10];
        }
        int state = List.of("", "READY", "SLEEPS", "WAITS", "DEAD").indexOf(proc.state);
        int[] answers = {state, proc.place, proc.parent == null ? -2 : proc.parent, state == 4 ? proc.code : 0,
            state == 2 ? (int) (proc.wakesAt - time) : 0, proc.faults, proc.begun};
        return answers[what];
    }

    int page(int p, int k, int what) {
        if (!procs.containsKey(p) || k < 0 || k > 7 || what < 0 || what > 5) {
            return -1;
        }
        Leaf leaf = procs.get(p).pages.get(k);
        if (leaf == null) {
            return new int[] {0, -2, -2, 0, 0, 0}[what];
        }
        int[] answers = {leaf.frame != null ? 1 : 2, leaf.frame != null ? leaf.frame : -2,
            leaf.slot != null ? leaf.slot : -2, leaf.used ? 1 : 0, leaf.changed ? 1 : 0, belongs(leaf)};
        return answers[what];
    }

    int printed(int k) {
        return k < 0 || k > 39 || k >= values.size() ? 0 : values.get(k);
    }

    int count(int what) {
        int lying = 0;
        for (Leaf leaf : inFrame) {
            lying += leaf != null ? 1 : 0;
        }
        int slots = 0;
        for (int slot = 0; slot < 32; slot++) {
            slots += inSlot(slot) != null ? 1 : 0;
        }
        int[] answers = {time, procs.size(), turn, done, lying, slots, hand, faults, writes, reads, copies, idle,
            values.size(), wild};
        return what < 0 || what > 13 ? -1 : answers[what];
    }
}
