/**
 * The sentences of ../shared/DOC.md to which the tests hold the class, word by word and in its
 * order. Each test names the one that it is about; SentencesTest sees to it that none is missing.
 */
enum Sentence {
    USED_FOR("What it is", 0,
        "An object is used for at most 512 calls after it has been made; what later calls answer is free."),

    WORDS_ARE("Terms", 3,
        "WORDS are ints."),
    FRAMES_AND_SLOTS("Terms", 8,
        "There are 6 FRAMES and 32 SLOTS of 8 WORDS each."),
    PROCESSES_ARE("Terms", 7,
        "PROCESSES are 0 to 3; one that is there has REGISTERS 0 to 3 (wrapping), a PLACE, a PARENT (a "
            + "PROCESS or none), a STATE, and for its PAGES 0 to 7 a SHEET each or none; its ADDRESSES are 0 to 63,"
            + " ADDRESS a being WORD a mod 8 of PAGE a / 8."),
    STATES("Terms", 7,
        "STATES: 1 READY, 2 SLEEPS, 3 WAITS, 4 DEAD (with a CODE)."),
    SHEET_BELONGS("Terms", 8,
        "A SHEET has 8 WORDS and belongs to the PAGES (of one or more PROCESSES) that have it; one that "
            + "belongs to none is gone, with its FRAME and SLOT."),
    SHEET_LIES("Terms", 8,
        "It lies in a FRAME or not, and has a SLOT or not."),
    SHEET_MAY_BE("Terms", 8,
        "It may be USED and CHANGED."),
    REACH_NEW("Terms", 3,
        "TO REACH a PAGE of a PROCESS, to read or to write: if it has no SHEET, it gets a new one, all WORDS "
            + "0, without FRAME and SLOT."),
    REACH_COPY("Terms", 3,
        "If it is to write, and the SHEET belongs to other PAGES, too: the SHEET is BROUGHT IN; then the PAGE"
            + " has a new SHEET in its stead, a COPY with the same WORDS, which is BROUGHT IN, too, and is CHANGED."),
    REACH_ELSE("Terms", 3,
        "Else the SHEET is BROUGHT IN."),
    REACH_USED("Terms", 3,
        "Then it is USED, and CHANGED if it is to write."),
    BRING_IN_NOTHING("Terms", 3,
        "TO BRING IN a SHEET: if it lies in a FRAME, nothing."),
    BRING_IN_FAULT("Terms", 3,
        "Else that is a FAULT (not for a COPY); it gets the least FRAME in which none lies; if there is none,"
            + " the HAND, at first at FRAME 0, looks: as long as the SHEET in its FRAME is USED, that is USED no "
            + "more, and the HAND goes to the next FRAME (from 5 to 0); else that SHEET GOES OUT, its FRAME is the "
            + "one, and the HAND goes to the next FRAME."),
    BRING_IN_WORDS("Terms", 3,
        "(A SHEET from the disk has the WORDS of its SLOT, one without SLOT zeros, but for a COPY.)"),
    GOES_OUT_CHANGED("Terms", 3,
        "A SHEET GOES OUT: if it is CHANGED, it gets the least free SLOT, if it has none, its WORDS are "
            + "written there, and it is CHANGED no more."),
    GOES_OUT_NO_FRAME("Terms", 3,
        "Then it lies in no FRAME."),
    GOES_OUT_UNCHANGED("Terms", 3,
        "(One that is not CHANGED is as its SLOT, or all 0 without one.)"),
    WORD_PARTS("Terms", 6,
        "INSTRUCTIONS are WORDS w: OP w mod 16, R the REGISTER (w / 16) mod 4, S the REGISTER (w / 64) mod 4,"
            + " N = w / 256 (/ rounded down, mod from 0 on)."),
    EXIT("Terms", 6,
        "0 EXIT: the PROCESS ENDS with the value of R as CODE."),
    SET("Terms", 6,
        "1 R is N."),
    ADD("Terms", 6,
        "2 R is R + S."),
    SUBTRACT("Terms", 6,
        "3 R is R - S."),
    LOAD("Terms", 6,
        "4 R is the WORD at ADDRESS S + N."),
    STORE("Terms", 6,
        "5 the WORD at ADDRESS S + N is R."),
    JUMP_IF_ZERO("Terms", 6,
        "6 if R is 0 it goes on at PLACE N."),
    JUMP("Terms", 6,
        "7 it goes on at PLACE N."),
    LESS("Terms", 6,
        "9 R is 1 if R is less than S, else 0."),
    PRINT("Terms", 6,
        "8 by N: 0 PRINT: R is printed."),
    FORK("Terms", 6,
        "1 FORK: the least PROCESS that is not there is there, READY, with this one as PARENT, the same "
            + "REGISTERS, but R -1, the PLACE behind the FORK, and the same SHEETS for its PAGES; R of this one is "
            + "its number; -2 if there is none."),
    YIELD("Terms", 6,
        "2 YIELD: its TURN is over."),
    SLEEP("Terms", 6,
        "3 SLEEP: it SLEEPS for R TICKS (not at all if R is below 1)."),
    WAIT("Terms", 6,
        "4 WAIT: if a PROCESS with this one as PARENT is DEAD, the least such is not there any more, and R is"
            + " its CODE; else, if there is no PROCESS with this one as PARENT, R is -2; else it WAITS, and the "
            + "INSTRUCTION will be done again."),
    SELF("Terms", 6,
        "5 R is its own number."),
    NEXT_PLACE("Terms", 6,
        "Behind an INSTRUCTION the PLACE is 1 more, if it does not say otherwise."),
    WILD("Terms", 6,
        "It is WILD, and the PROCESS ENDS with CODE -99, if the PLACE or an ADDRESS is not 0 to 63, or for "
            + "another OP, or N with 8."),
    SUMS_WRAP("Terms", 6,
        "(PLACE and ADDRESSES are sums that wrap.)"),
    ENDS("Terms", 5,
        "A PROCESS ENDS: its PAGES have no SHEETS any more; those with it as PARENT have none, and are not "
            + "there any more if they are DEAD; it is DEAD with its CODE, and its PARENT, if that WAITS, is READY; "
            + "without PARENT it is not there any more."),
    TICK_TIME("Terms", 6,
        "A TICK: TIME is 1 more; PROCESSES that SLEEP and have slept their TICKS are READY."),
    TICK_TURN("Terms", 6,
        "If the PROCESS that has the TURN is not READY, or its TURN is over (4 INSTRUCTIONS were done in it),"
            + " the TURN goes to the next READY one by numbers behind it, round to itself (at first behind 3); "
            + "without any the TICK is IDLE."),
    TICK_INSTRUCTION("Terms", 6,
        "That one does one INSTRUCTION: its WORD at the PLACE is REACHED to read, and then what it needs."),
    TICK_ANEW("Terms", 6,
        "(A TURN that was over, or went to another one, begins anew.)"),
    CHANGE_NOTHING("Terms", 0,
        "Calls that answer REFUSED, FULL or false change nothing; REFUSED is tested first."),
    REFUSED("Terms", 0,
        "The constants: `REFUSED = -1`: A number is not as said, or something that must be there is not."),
    NONE("Terms", 0,
        "`NONE = -2`: There is no such thing."),
    FULL("Terms", 0,
        "`FULL = -3`: There is no room."),

    NEW_OBJECT("Promise 1: A new object", 1,
        "`SheetKernel()`: No PROCESSES; TIME 0; all FRAMES and SLOTS free."),

    SPAWN("Promise 2: spawn", 2,
        "`int spawn()`: The least PROCESS that is not there is there, READY, without PARENT and SHEETS, "
            + "REGISTERS and PLACE 0: its number."),
    SPAWN_FULL("Promise 2: spawn", 2,
        "FULL if all are there."),

    POKE("Promise 3: poke", 3,
        "`int poke(int p, int a, int w)`: The WORD at ADDRESS a of PROCESS p becomes w; its PAGE is REACHED "
            + "to write: how many FAULTS that made."),
    POKE_REFUSED("Promise 3: poke", 3,
        "REFUSED if p is not there or DEAD, or a is not 0 to 63."),

    PEEK("Promise 4: peek", 4,
        "`int peek(int p, int a)`: The WORD at ADDRESS a of PROCESS p, without REACHING anything (0 without a"
            + " SHEET)."),
    PEEK_REFUSED("Promise 4: peek", 4,
        "REFUSED as for poke; it may be any int otherwise."),

    KILL("Promise 5: kill", 5,
        "`boolean kill(int p)`: PROCESS p ENDS with CODE -9: true; false if it is not there or DEAD."),

    RUN("Promise 6: run", 6,
        "`int run(int n)`: So many TICKS (1 to 40): how many of them were not IDLE."),
    RUN_REFUSED("Promise 6: run", 6,
        "REFUSED for another n."),

    PROCESS("Promise 7: process", 7,
        "`int process(int p, int what)`: Of PROCESS p what 0: its STATE (0 if it is not there), 1: its PLACE,"
            + " 2: its PARENT (NONE), 3: its CODE (0 if it is not DEAD), 4: how many TICKS it will sleep yet (0 if "
            + "it does not SLEEP), 5: FAULTS that it made since it was there (by poke too), 6: INSTRUCTIONS that it"
            + " began since it was there; 10 + r: REGISTER r."),
    PROCESS_REFUSED("Promise 7: process", 7,
        "REFUSED for others, or p not 0 to 3; 0 for all but 0 if it is not there."),

    PAGE("Promise 8: page", 8,
        "`int page(int p, int k, int what)`: Of PAGE k (0 to 7) of PROCESS p what 0: 0 if it has no SHEET, 1 "
            + "if that lies in a FRAME, 2 if not; 1: that FRAME (NONE), 2: its SLOT (NONE), 3: 1 if it is USED, 4: "
            + "1 if it is CHANGED, else 0; 5: to how many PAGES it belongs (0 without)."),
    PAGE_REFUSED("Promise 8: page", 8,
        "REFUSED for others, or if p is not there."),

    PRINTED("Promise 9: printed", 9,
        "`int printed(int k)`: Value k (0 the first; the first 40 are kept) that was printed; 0 if there is "
            + "none."),

    COUNT("Promise 10: count", 10,
        "`int count(int what)`: What 0: TIME; 1: PROCESSES that are there; 2: the one that has the TURN (3 at"
            + " first; also if it is not there any more); 3: INSTRUCTIONS done in its TURN; 4: FRAMES in which "
            + "SHEETS lie, 5: SLOTS that SHEETS have, 6: the FRAME at which the HAND is; 7: FAULTS so far, 8: "
            + "SHEETS that were written to SLOTS so far, 9: read from SLOTS so far, 10: COPIES so far; 11: IDLE "
            + "TICKS, 12: values printed so far, 13: WILD INSTRUCTIONS so far."),
    COUNT_REFUSED("Promise 10: count", 10,
        "REFUSED for others.");

    /** The heading of the document under which it stands. */
    final String section;
    private final int promise;
    final String text;

    /** A sentence of "Terms" bears the number of the promise that rests on it most, 0 if all do. */
    Sentence(String section, int promise, String text) {
        this.section = section;
        this.promise = promise;
        this.text = text;
    }

    @Override
    public String toString() {
        String where = section.startsWith("Promise") ? section : section + " (" + which() + ")";
        return where + ", '" + text + "'";
    }

    private String which() {
        return promise == 0 ? "all promises" : "promise " + promise;
    }
}
