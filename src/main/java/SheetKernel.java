import java.util.Arrays;

/**
 * A small machine with a kernel for it; ../shared/DOC.md says what each call answers and changes.
 */
public final class SheetKernel {
    public static final int REFUSED = -1;
    public static final int NONE = -2;
    public static final int FULL = -3;

    private static final int TASKS = 4;
    private static final int REGISTERS = 4;
    private static final int PAGES = 8;
    private static final int WORDS = 8;
    private static final int ADDRESSES = PAGES * WORDS;
    private static final int FRAMES = 6;
    private static final int SLOTS = 32;
    /** No more are ever needed: each SHEET belongs to a PAGE at least. */
    private static final int SHEETS = TASKS * PAGES;

    private static final int ABSENT = 0;
    private static final int READY = 1;
    private static final int SLEEPS = 2;
    private static final int WAITS = 3;
    private static final int DEAD = 4;

    private static final int TURN_LENGTH = 4;
    private static final int MOST_TICKS = 40;
    private static final int MOST_KEPT = 40;

    private static final int KILLED_CODE = -9;
    private static final int WILD_CODE = -99;
    private static final int CHILD_ANSWER = -1;
    private static final int NO_TASK_ANSWER = -2;

    private final Task[] tasks = new Task[TASKS];
    private final Memory memory = new Memory();
    private final int[] kept = new int[MOST_KEPT];
    private int values;
    private int time;
    private int idleTicks;
    private int wildInstructions;
    private int turn = TASKS - 1;
    private int doneInTurn;
    private boolean yielded;

    public SheetKernel() {
        for (int p = 0; p < TASKS; p++) {
            tasks[p] = new Task();
        }
    }

    public int spawn() {
        int p = leastAbsent();
        if (p == NONE) {
            return FULL;
        }
        tasks[p].begin(NONE);
        return p;
    }

    public int poke(int p, int a, int w) {
        if (!lives(p) || !isAddress(a)) {
            return REFUSED;
        }
        int before = memory.faults;
        memory.write(tasks[p], a, w);
        return memory.faults - before;
    }

    public int peek(int p, int a) {
        if (!lives(p) || !isAddress(a)) {
            return REFUSED;
        }
        Sheet sheet = tasks[p].pages[a / WORDS];
        return sheet == null ? 0 : sheet.words[a % WORDS];
    }

    public boolean kill(int p) {
        if (!lives(p)) {
            return false;
        }
        end(p, KILLED_CODE);
        return true;
    }

    public int run(int n) {
        if (n < 1 || n > MOST_TICKS) {
            return REFUSED;
        }
        int busy = 0;
        for (int i = 0; i < n; i++) {
            time++;
            wakeSleepers();
            if (giveTurn()) {
                doInstruction(turn);
                busy++;
            } else {
                idleTicks++;
            }
        }
        return busy;
    }

    public int process(int p, int what) {
        boolean register = what >= 10 && what < 10 + REGISTERS;
        if (!isTask(p) || what < 0 || (what > 6 && !register)) {
            return REFUSED;
        }
        Task task = tasks[p];
        if (task.state == ABSENT) {
            return 0;
        }
        return register ? task.registers[what - 10] : task.tell(what);
    }

    public int page(int p, int k, int what) {
        if (!isThere(p) || k < 0 || k >= PAGES || what < 0 || what > 5) {
            return REFUSED;
        }
        Sheet sheet = tasks[p].pages[k];
        if (sheet == null) {
            return what == 1 || what == 2 ? NONE : 0;
        }
        return sheet.tell(what);
    }

    public int printed(int k) {
        return k >= 0 && k < MOST_KEPT && k < values ? kept[k] : 0;
    }

    public int count(int what) {
        switch (what) {
            case 0: return time;
            case 1: return presentTasks();
            case 2: return turn;
            case 3: return doneInTurn;
            case 4: return Memory.taken(memory.frames);
            case 5: return Memory.taken(memory.slots);
            case 6: return memory.hand;
            case 7: return memory.faults;
            case 8: return memory.written;
            case 9: return memory.read;
            case 10: return memory.copies;
            case 11: return idleTicks;
            case 12: return values;
            case 13: return wildInstructions;
            default: return REFUSED;
        }
    }

    private static boolean isTask(int p) {
        return p >= 0 && p < TASKS;
    }

    private static boolean isAddress(int a) {
        return a >= 0 && a < ADDRESSES;
    }

    private boolean isThere(int p) {
        return isTask(p) && tasks[p].state != ABSENT;
    }

    private boolean lives(int p) {
        return isThere(p) && tasks[p].state != DEAD;
    }

    private int leastAbsent() {
        for (int p = 0; p < TASKS; p++) {
            if (tasks[p].state == ABSENT) {
                return p;
            }
        }
        return NONE;
    }

    private int presentTasks() {
        int present = 0;
        for (int p = 0; p < TASKS; p++) {
            if (tasks[p].state != ABSENT) {
                present++;
            }
        }
        return present;
    }

    private void wakeSleepers() {
        for (int p = 0; p < TASKS; p++) {
            Task task = tasks[p];
            if (task.state == SLEEPS) {
                task.sleepLeft--;
                if (task.sleepLeft == 0) {
                    task.state = READY;
                }
            }
        }
    }

    /** False, with the TURN left as it is, if none is READY. */
    private boolean giveTurn() {
        boolean over = yielded || doneInTurn >= TURN_LENGTH;
        if (tasks[turn].state == READY && !over) {
            return true;
        }
        for (int i = 1; i <= TASKS; i++) {
            int p = (turn + i) % TASKS;
            if (tasks[p].state == READY) {
                turn = p;
                doneInTurn = 0;
                yielded = false;
                return true;
            }
        }
        return false;
    }

    private void doInstruction(int p) {
        Task task = tasks[p];
        task.begun++;
        doneInTurn++;
        int place = task.place;
        boolean tame = isAddress(place);
        if (tame) {
            int w = memory.fetch(task, place);
            task.place = place + 1;
            tame = obey(p, w);
        }
        if (!tame) {
            wildInstructions++;
            end(p, WILD_CODE);
        }
    }

    /** False if the INSTRUCTION is WILD; then nothing has been done. */
    private boolean obey(int p, int w) {
        Task task = tasks[p];
        int[] registers = task.registers;
        int r = (w >> 4) & 3;
        int s = registers[(w >> 6) & 3];
        int n = w >> 8;
        switch (w & 15) {
            case 0:
                end(p, registers[r]);
                return true;
            case 1:
                registers[r] = n;
                return true;
            case 2:
                registers[r] += s;
                return true;
            case 3:
                registers[r] -= s;
                return true;
            case 4:
                if (!isAddress(s + n)) {
                    return false;
                }
                registers[r] = memory.fetch(task, s + n);
                return true;
            case 5:
                if (!isAddress(s + n)) {
                    return false;
                }
                memory.write(task, s + n, registers[r]);
                return true;
            case 6:
                if (registers[r] == 0) {
                    task.place = n;
                }
                return true;
            case 7:
                task.place = n;
                return true;
            case 8:
                return callSystem(p, r, n);
            case 9:
                registers[r] = registers[r] < s ? 1 : 0;
                return true;
            default:
                return false;
        }
    }

    private boolean callSystem(int p, int r, int n) {
        Task task = tasks[p];
        switch (n) {
            case 0:
                print(task.registers[r]);
                return true;
            case 1:
                fork(p, r);
                return true;
            case 2:
                yielded = true;
                return true;
            case 3:
                sleep(task, task.registers[r]);
                return true;
            case 4:
                awaitChild(p, r);
                return true;
            case 5:
                task.registers[r] = p;
                return true;
            default:
                return false;
        }
    }

    private void print(int value) {
        if (values < MOST_KEPT) {
            kept[values] = value;
        }
        values++;
    }

    private void fork(int p, int r) {
        Task task = tasks[p];
        int c = leastAbsent();
        if (c == NONE) {
            task.registers[r] = NO_TASK_ANSWER;
            return;
        }
        Task child = tasks[c];
        child.begin(p);
        child.place = task.place;
        for (int i = 0; i < REGISTERS; i++) {
            child.registers[i] = task.registers[i];
        }
        child.registers[r] = CHILD_ANSWER;
        task.registers[r] = c;
        for (int k = 0; k < PAGES; k++) {
            Sheet sheet = task.pages[k];
            if (sheet != null) {
                sheet.owners++;
                child.pages[k] = sheet;
            }
        }
    }

    private void sleep(Task task, int ticks) {
        if (ticks >= 1) {
            task.state = SLEEPS;
            task.sleepLeft = ticks;
        }
    }

    private void awaitChild(int p, int r) {
        Task task = tasks[p];
        boolean parent = false;
        for (int c = 0; c < TASKS; c++) {
            Task child = tasks[c];
            if (child.parent == p) {
                if (child.state == DEAD) {
                    task.registers[r] = child.code;
                    child.leave();
                    return;
                }
                parent = true;
            }
        }
        if (parent) {
            task.state = WAITS;
            // The PLACE is behind the WAIT already, which has to be done again.
            task.place--;
        } else {
            task.registers[r] = NO_TASK_ANSWER;
        }
    }

    private void end(int p, int code) {
        Task task = tasks[p];
        memory.releaseAll(task);
        orphanChildren(p);
        if (task.parent == NONE) {
            task.leave();
            return;
        }
        task.state = DEAD;
        task.code = code;
        Task parent = tasks[task.parent];
        if (parent.state == WAITS) {
            parent.state = READY;
        }
    }

    private void orphanChildren(int p) {
        for (int c = 0; c < TASKS; c++) {
            Task child = tasks[c];
            if (child.parent == p) {
                child.parent = NONE;
                if (child.state == DEAD) {
                    child.leave();
                }
            }
        }
    }

    /** A PROCESS of the document, by a name that the Java library does not have. */
    private static final class Task {
        final int[] registers = new int[REGISTERS];
        final Sheet[] pages = new Sheet[PAGES];
        int state = ABSENT;
        int place;
        int parent = NONE;
        int code;
        int sleepLeft;
        int faults;
        int begun;

        void begin(int newParent) {
            Arrays.fill(registers, 0);
            state = READY;
            place = 0;
            parent = newParent;
            code = 0;
            sleepLeft = 0;
            faults = 0;
            begun = 0;
        }

        /** The PARENT is forgotten so that one who is not there is never taken for a child. */
        void leave() {
            state = ABSENT;
            parent = NONE;
        }

        int tell(int what) {
            switch (what) {
                case 0: return state;
                case 1: return place;
                case 2: return parent;
                case 3: return code;
                case 4: return state == SLEEPS ? sleepLeft : 0;
                case 5: return faults;
                default: return begun;
            }
        }
    }

    /**
     * Its WORDS are held once, in FRAME or SLOT: those in a FRAME differ from those of the SLOT
     * only while it is CHANGED, and then nothing can look at the SLOT.
     */
    private static final class Sheet {
        final int[] words = new int[WORDS];
        int owners;
        int frame = NONE;
        int slot = NONE;
        boolean used;
        boolean changed;

        int tell(int what) {
            switch (what) {
                case 0: return frame == NONE ? 2 : 1;
                case 1: return frame;
                case 2: return slot;
                case 3: return used ? 1 : 0;
                case 4: return changed ? 1 : 0;
                default: return owners;
            }
        }
    }

    private static final class Memory {
        final Sheet[] sheets = new Sheet[SHEETS];
        final Sheet[] frames = new Sheet[FRAMES];
        final Sheet[] slots = new Sheet[SLOTS];
        int hand;
        int faults;
        int written;
        int read;
        int copies;

        Memory() {
            for (int i = 0; i < SHEETS; i++) {
                sheets[i] = new Sheet();
            }
        }

        static int taken(Sheet[] places) {
            int taken = 0;
            for (int i = 0; i < places.length; i++) {
                if (places[i] != null) {
                    taken++;
                }
            }
            return taken;
        }

        int fetch(Task task, int a) {
            return reach(task, a / WORDS, false).words[a % WORDS];
        }

        void write(Task task, int a, int w) {
            reach(task, a / WORDS, true).words[a % WORDS] = w;
        }

        Sheet reach(Task task, int k, boolean toWrite) {
            if (task.pages[k] == null) {
                task.pages[k] = newSheet();
            }
            Sheet sheet = task.pages[k];
            if (sheet.frame == NONE) {
                task.faults++;
                faults++;
                if (sheet.slot != NONE) {
                    read++;
                }
                layInFrame(sheet);
            }
            if (toWrite && sheet.owners > 1) {
                sheet = copyOf(sheet);
                task.pages[k] = sheet;
                layInFrame(sheet);
            }
            sheet.used = true;
            if (toWrite) {
                sheet.changed = true;
            }
            return sheet;
        }

        Sheet newSheet() {
            int i = 0;
            while (i < SHEETS - 1 && sheets[i].owners > 0) {
                i++;
            }
            Sheet sheet = sheets[i];
            Arrays.fill(sheet.words, 0);
            sheet.owners = 1;
            return sheet;
        }

        /** Made before the COPY gets its FRAME, as the SHEET itself may go out for that. */
        Sheet copyOf(Sheet sheet) {
            Sheet copy = newSheet();
            System.arraycopy(sheet.words, 0, copy.words, 0, WORDS);
            sheet.owners--;
            copies++;
            return copy;
        }

        void layInFrame(Sheet sheet) {
            int f = chooseFrame();
            if (frames[f] != null) {
                goOut(frames[f]);
            }
            frames[f] = sheet;
            sheet.frame = f;
        }

        int chooseFrame() {
            for (int f = 0; f < FRAMES; f++) {
                if (frames[f] == null) {
                    return f;
                }
            }
            for (int looks = 0; looks < FRAMES && frames[hand].used; looks++) {
                frames[hand].used = false;
                hand = (hand + 1) % FRAMES;
            }
            int chosen = hand;
            hand = (hand + 1) % FRAMES;
            return chosen;
        }

        void goOut(Sheet sheet) {
            if (sheet.changed) {
                if (sheet.slot == NONE) {
                    sheet.slot = leastFreeSlot();
                    slots[sheet.slot] = sheet;
                }
                written++;
                sheet.changed = false;
            }
            frames[sheet.frame] = null;
            sheet.frame = NONE;
        }

        /** There always is one: there are as many SLOTS as SHEETS, and one SHEET asks. */
        int leastFreeSlot() {
            int i = 0;
            while (i < SLOTS - 1 && slots[i] != null) {
                i++;
            }
            return i;
        }

        void releaseAll(Task task) {
            for (int k = 0; k < PAGES; k++) {
                Sheet sheet = task.pages[k];
                if (sheet != null) {
                    task.pages[k] = null;
                    release(sheet);
                }
            }
        }

        void release(Sheet sheet) {
            sheet.owners--;
            if (sheet.owners > 0) {
                return;
            }
            if (sheet.frame != NONE) {
                frames[sheet.frame] = null;
                sheet.frame = NONE;
            }
            if (sheet.slot != NONE) {
                slots[sheet.slot] = null;
                sheet.slot = NONE;
            }
            sheet.used = false;
            sheet.changed = false;
        }
    }
}
