import java.util.NoSuchElementException;

/** The bounds that section 8 of the document names, and those of promises 28 to 37: on both sides, each on its own. */
public final class MachineBoundsTest {
    private static final Kit KIT = new Kit();
    private static final int MIN = Integer.MIN_VALUE;
    private static final int MAX = Integer.MAX_VALUE;
    private static final int[] TYPES = Bytes.section(1, Bytes.row(Bytes.type(0, 1), Bytes.type(1, 1), Bytes.type(1, 0),
        Bytes.type(2, 1), Bytes.type(0, 0), Bytes.type(3, 1), Bytes.type(4, 1)));
    private static final int[] HOST = Bytes.section(2, Bytes.row(Bytes.imported("dup", 1), Bytes.imported("drop", 2),
        Bytes.imported("link", 3), Bytes.imported("pair", 3), Bytes.imported("room", 1)));
    private static final int[] SMALL = Bytes.memory(1, 8);

    public static void main(String[] args) {
        wordsGoRound();
        divisions();
        shiftsByFiveBits();
        comparisonsAndSigns();
        selecting();
        placesWithoutASign();
        placesOfWholeWords();
        lowestByteFirst();
        growing();
        memoryAtFirst();
        eightyFrames();
        eightyFramesByTable();
        hostCallsAreNoFrames();
        oneInstructionAStep();
        ifAndElse();
        branches();
        lastEnd();
        trapsLeaveAll();
        tableEntries();
        laterElementsOverEarlierOnes();
        theHostByTable();
        dupOfWords();
        dropOfWords();
        holdersGoRound();
        cellsAsTheyAreGiven();
        roomOfTwoTo80();
        cellsBeyondTheMemory();
        cellsThatNeedManyPages();
        cellsFreedAndGivenAgain();
        rowOfFreedCells();
        inUseUpToThen();
        brokenFields();
        beginAnExport();
        sixRuns();
        stepsOfACall();
        questionsOfARun();
        questionsByATrap();
        wordOfARun();
        valueOfARun();
        givingBack();
        stacks();
        locals();
        memoryOfARun();
        dropRun();
        KIT.end();
    }

    /** A module with the host's functions and a function 5 of no parameters, two locals and a value; it is export 0. */
    private static Wasmhall hall(int[] memory, String words) {
        Wasmhall hall = Kit.read(Bytes.module(TYPES, HOST, Bytes.section(3, Bytes.of(1, 0)), Bytes.table(2), memory,
            Bytes.section(7, Bytes.row(Bytes.exported("a", 5))), Bytes.section(9, Bytes.row(Bytes.element(0, 5))),
            Bytes.section(10, Bytes.row(Bytes.code(2, Bytes.asm(words))))));
        KIT.due("fault of " + words, hall.fault(true) + " " + hall.fault(false), "0 -1");
        hall.begin(0, 0, 0, 0, 0);
        return hall;
    }

    private static Wasmhall run(int[] memory, String words) {
        Wasmhall hall = hall(memory, words);
        hall.step(0, 20000);
        return hall;
    }

    private static void gives(int word, String words) {
        Wasmhall hall = run(SMALL, words);
        KIT.due("the state of " + words, hall.runAt(0, 0), 1);
        KIT.due("the word of " + words, hall.runAt(0, 0) == 1 ? hall.word(0) : 0, word);
    }

    /** Ended by a trap with so many steps, the last one at the instruction with the @; the stack is as it was ahead of it. */
    private static void trap(int trap, String words, int... stack) {
        Wasmhall hall = run(SMALL, words);
        int steps = 1;
        for (int i = 0; i < words.indexOf('@'); i++) {
            steps += words.charAt(i) == ',' ? 1 : 0;
        }
        KIT.due("the state of " + words, hall.runAt(0, 0), 1 + trap);
        KIT.due("the steps of " + words, hall.runAt(0, 1), steps);
        KIT.due("the words on stacks of " + words, hall.runAt(0, 3), stack.length);
        for (int i = 0; i < stack.length; i++) {
            KIT.due("stackAt(0, " + i + ") of " + words, hall.stackAt(0, i), stack[stack.length - 1 - i]);
        }
        KIT.due("the frames of " + words, hall.runAt(0, 2), 1);
    }

    private static String two(int left, int right, String name) {
        return "const " + left + ", const " + right + ", " + name;
    }

    /** "Words are numbers of 32 bits with a sign, that go round" */
    private static void wordsGoRound() {
        gives(MAX, two(MAX - 1, 1, "add"));
        gives(MIN, two(MAX, 1, "add"));
        gives(MAX, two(MIN, -1, "add"));
        gives(MIN, two(MIN + 1, 1, "sub"));
        gives(MAX, two(MIN, 1, "sub"));
        gives(MIN, two(0, MIN, "sub"));
        gives(MIN, two(65536, 32768, "mul"));
        gives(0, two(65536, 65536, "mul"));
        gives(1, two(MAX, MAX, "mul"));
        gives(MIN, two(MIN, -1, "mul"));
        gives(-1, two(MIN, MAX, "or"));
        gives(0, two(MIN, MAX, "and"));
        gives(-1, two(MIN, MAX, "xor"));
    }

    /** "2 DIVISION: by 0, or of -2147483648 by -1 by div_s"; "rem_s has the sign of the left one" */
    private static void divisions() {
        gives(-3, two(-7, 2, "div_s"));
        gives(-3, two(7, -2, "div_s"));
        gives(MIN, two(MIN, 1, "div_s"));
        gives(-MAX, two(MAX, -1, "div_s"));
        gives(MAX, two(MIN + 1, -1, "div_s"));
        gives(1073741824, two(MIN, -2, "div_s"));
        gives(-1, two(-7, 2, "rem_s"));
        gives(1, two(7, -2, "rem_s"));
        gives(0, two(MIN, -1, "rem_s"));
        gives(-1, two(MIN, MAX, "rem_s"));
        for (int left : new int[] {0, 1, MIN, MAX}) {
            trap(2, two(left, 0, "@div_s"), left, 0);
            trap(2, two(left, 0, "@rem_s"), left, 0);
        }
        trap(2, two(MIN, -1, "@div_s"), MIN, -1);
    }

    /** "shifts by the lowest 5 bits" */
    private static void shiftsByFiveBits() {
        gives(MIN, two(1, 31, "shl"));
        gives(1, two(1, 32, "shl"));
        gives(2, two(1, 33, "shl"));
        gives(MIN, two(1, -1, "shl"));
        gives(-1, two(MIN, 31, "shr_s"));
        gives(MIN, two(MIN, 32, "shr_s"));
        gives(-1, two(MIN, -1, "shr_s"));
        gives(1, two(MIN, 31, "shr_u"));
        gives(MIN, two(MIN, 32, "shr_u"));
        gives(1, two(MIN, -1, "shr_u"));
        gives(MAX, two(-1, 1, "shr_u"));
    }

    /** "lt_u without a sign; comparisons and eqz give 1 or 0" */
    private static void comparisonsAndSigns() {
        String[] names = {"eq", "ne", "lt_s", "lt_u", "gt_s", "le_s", "ge_s"};
        int[][] pairs = {{3, 3}, {2, 3}, {3, 2}, {-1, 0}, {0, -1}, {MIN, MAX}, {MAX, MIN}};
        int[][] due = {{1, 0, 0, 0, 0, 1, 1}, {0, 1, 1, 1, 0, 1, 0}, {0, 1, 0, 0, 1, 0, 1}, {0, 1, 1, 0, 0, 1, 0},
            {0, 1, 0, 1, 1, 0, 1}, {0, 1, 1, 0, 0, 1, 0}, {0, 1, 0, 1, 1, 0, 1}};
        for (int i = 0; i < pairs.length; i++) {
            for (int k = 0; k < names.length; k++) {
                gives(due[i][k], two(pairs[i][0], pairs[i][1], names[k]));
            }
        }
        gives(1, "const 0, eqz");
        gives(0, "const 1, eqz");
        gives(0, "const -2147483648, eqz");
    }

    /** "select takes the third one, and puts the first one if that is not 0, otherwise the second one" */
    private static void selecting() {
        gives(8, "const 8, const 9, const 1, select");
        gives(8, "const 8, const 9, const -1, select");
        gives(9, "const 8, const 9, const 0, select");
    }

    /** "load and store take a place without a sign, and have the four bytes from it plus the offset on" */
    private static void placesWithoutASign() {
        gives(0, "const 0, load 1020");
        trap(3, "const 0, @load 1021", 0);
        trap(3, "const -1, @load 0", -1);
        trap(3, "const -4, @load 4", -4);
        trap(3, "const -1, @load 1", -1);
        trap(3, "const 0, @load 4294967295", 0);
        trap(3, "const -1, @load 4294967295", -1);
        trap(3, "const 0, @load 4294967292", 0);
        trap(3, "const -2147483648, @load 2147483648", MIN);
        trap(3, "const -4, const 9, @store 4, const 0", -4, 9);
        trap(3, "const 0, const 9, @store 4294967295, const 0", 0, 9);
    }

    /** "MEMORY: bytes beyond the memory": all four must be in it. */
    private static void placesOfWholeWords() {
        gives(7, "const 1020, const 7, store 0, const 1020, load 0");
        gives(7, "const 0, const 7, store 1020, const 1000, load 20");
        for (int place = 1021; place <= 1025; place++) {
            trap(3, "const " + place + ", @load 0", place);
            trap(3, "const " + place + ", const 7, @store 0, const 0", place, 7);
            trap(3, "const 0, @load " + place, 0);
        }
        Wasmhall hall = run(SMALL, "const 1021, const -1, store 0, const 0");
        KIT.due("nothing of it is stored", hall.memoryAt(0, 1020), 0);
        gives(7, "const 7, grow, drop, const 8188, const 7, store 0, const 8188, load 0");
        trap(3, "const 7, grow, drop, const 8189, @load 0", 8189);
    }

    private static void lowestByteFirst() {
        Wasmhall hall = run(SMALL, "const 5, const 305419896, store 0, const 0");
        KIT.due("memoryAt(0, 5)", hall.memoryAt(0, 5), 0x12345678);
        KIT.due("memoryAt(0, 2)", hall.memoryAt(0, 2), 0x78000000);
        KIT.due("memoryAt(0, 4)", hall.memoryAt(0, 4), 0x34567800);
        KIT.due("memoryAt(0, 8)", hall.memoryAt(0, 8), 0x12);
        gives(0x56, "const 0, const 305419896, store 0, const 0, load 1, const 255, and");
    }

    /** "size puts the pages; grow takes how many, and puts how many there were, or -1 if there would be more than at most" */
    private static void growing() {
        gives(1, "size");
        gives(1, "const 0, grow");
        gives(1, "const 7, grow");
        gives(8, "const 7, grow, drop, size");
        gives(-1, "const 8, grow");
        gives(1, "const 8, grow, drop, size");
        gives(8, "const 7, grow, drop, const 0, grow");
        gives(-1, "const 7, grow, drop, const 1, grow");
        gives(-1, "const -1, grow");
        gives(-1, "const -2147483648, grow");
        gives(-1, "const 2147483647, grow");
        gives(0, "const 1, grow, drop, const 2044, load 0");
        Wasmhall sixteen = run(Bytes.memory(0, 16), "const 16, grow, drop, const 16380, load 0");
        KIT.due("16 pages", sixteen.runAt(0, 4), 16);
        Wasmhall none = run(Bytes.memory(0, 0), "const 1, grow");
        KIT.due("no page beyond none", none.word(0), -1);
    }

    /** "It has a memory (all 0, of at least so many pages" */
    private static void memoryAtFirst() {
        for (int pages = 0; pages <= 16; pages += 4) {
            Wasmhall hall = hall(Bytes.memory(pages, 16), "const 1");
            KIT.due("pages", hall.runAt(0, 4), pages);
            for (int place = 0; place + 4 <= 1024 * pages; place += 4) {
                KIT.due("memoryAt(0, " + place + ")", hall.memoryAt(0, place), 0);
            }
        }
        // A run that begins where one has been dropped has its own.
        Wasmhall again = run(SMALL, "const 0, const 7, store 8, const 3, grow");
        again.dropRun(0);
        again.begin(0, 0, 0, 0, 0);
        KIT.due("pages", again.runAt(0, 4), 1);
        KIT.due("memoryAt(0, 8)", again.memoryAt(0, 8), 0);
        // So it has its own frames and stacks, where a trap has left some.
        Wasmhall left = run(SMALL, "const 5, const 6, const 1, if 64, call 5, drop, end, drop");
        KIT.due("frames of the trap", left.runAt(0, 2), 80);
        left.dropRun(0);
        left.begin(0, 0, 0, 0, 0);
        KIT.due("frames", left.runAt(0, 2) + " " + left.runAt(0, 8), "1 1");
        KIT.due("words on stacks", left.runAt(0, 3), 0);
        left.step(0, 2);
        KIT.due("words on stacks behind two steps", left.runAt(0, 3), 2);
        KIT.due("a local", left.localAt(0, 0, 1), 0);
    }

    /** Counts its parameter down, a frame each: 2 * n + 1, less by 2. */
    private static Wasmhall counter(int n, String call) {
        Wasmhall hall = Kit.read(Bytes.module(TYPES, Bytes.section(3, Bytes.of(1, 1)), Bytes.table(1), Bytes.section(7, Bytes.row(
            Bytes.exported("a", 0))), Bytes.section(9, Bytes.row(Bytes.element(0, 0))), Bytes.section(10, Bytes.row(Bytes.code(0,
            Bytes.asm("get 0, const 1, eq, if 127, const 42, else, get 0, const 2, sub, " + call + ", end"))))));
        KIT.due("fault(true)", hall.fault(true), 0);
        hall.begin(0, 0, n, 0, 0);
        hall.step(0, 20000);
        return hall;
    }

    /** "at most 80"; "5 DEEP: an 81st frame" */
    private static void eightyFrames() {
        Wasmhall eighty = counter(79, "call 0");
        KIT.due("80 frames", eighty.runAt(0, 0), 1);
        KIT.due("the most", eighty.runAt(0, 8), 80);
        KIT.due("none at the end", eighty.runAt(0, 2), 0);
        KIT.due("the word", eighty.word(0), 42);
        Wasmhall more = counter(80, "call 0");
        KIT.due("81 frames", more.runAt(0, 0), 6);
        KIT.due("80 stay", more.runAt(0, 2), 80);
        KIT.due("the most of these", more.runAt(0, 8), 80);
        KIT.due("steps", more.runAt(0, 1), 80 * 8);
        KIT.due("the parameter that was to be given", more.stackAt(0, 0), 1);
        KIT.due("words on all stacks", more.runAt(0, 3), 1);
        KIT.due("the parameter of the first frame", more.localAt(0, 79, 0), 161);
        KIT.due("and of the newest one", more.localAt(0, 0, 0), 3);
        for (int frame = 0; frame < 80; frame++) {
            int which = frame;
            KIT.due("the parameter of frame " + frame, more.localAt(0, frame, 0), 3 + 2 * frame);
            KIT.throwing("a second local of frame " + frame, NoSuchElementException.class, () -> more.localAt(0, which, 1));
        }
    }

    private static void eightyFramesByTable() {
        KIT.due("80 frames", counter(79, "const 0, call_indirect 1").runAt(0, 0), 1);
        Wasmhall more = counter(80, "const 0, call_indirect 1");
        KIT.due("81 frames", more.runAt(0, 0), 6);
        KIT.due("the entry stays on the stack", more.stackAt(0, 0), 0);
        KIT.due("and the parameter", more.stackAt(0, 1), 1);
        // TABLE is looked at ahead of DEEP.
        KIT.due("no such entry", counter(80, "const 1, call_indirect 1").runAt(0, 0), 5);
    }

    /** "The host's functions (a call of one is one step)" */
    private static void hostCallsAreNoFrames() {
        Wasmhall hall = run(SMALL, "const 1, const 2, call 2, call 0, call 1, const 3");
        KIT.due("steps", hall.runAt(0, 1), 7);
        KIT.due("most frames", hall.runAt(0, 8), 1);
    }

    /** "In a STEP one instruction is done, also else ... and end." */
    private static void oneInstructionAStep() {
        Wasmhall hall = hall(SMALL, "block 64, nop, loop 64, const 1, if 64, nop, else, end, end, end, const 5");
        int[] at = {0, 1, 2, 3, 4, 5, 6, 8, 9, 10, 11};
        for (int i = 0; i < at.length; i++) {
            KIT.due("the instruction behind " + i + " steps", hall.runAt(0, 10), at[i]);
            KIT.due("one step", hall.step(0, 1), 1);
        }
        KIT.due("ended", hall.runAt(0, 0), 1);
        KIT.due("steps in all", hall.runAt(0, 1), 11);
    }

    /** "if ... goes on behind its else, or behind its end, if it has none"; "else (it goes on behind the end of its if)" */
    private static void ifAndElse() {
        gives(5, "const 1, if 127, const 5, else, const 6, end");
        gives(5, "const -1, if 127, const 5, else, const 6, end");
        gives(6, "const 0, if 127, const 5, else, const 6, end");
        KIT.due("steps with the else", run(SMALL, "const 1, if 127, const 5, else, const 6, end").runAt(0, 1), 5);
        KIT.due("steps of the else", run(SMALL, "const 0, if 127, const 5, else, const 6, end").runAt(0, 1), 5);
        KIT.due("steps of no else", run(SMALL, "const 0, if 64, nop, end, const 6").runAt(0, 1), 4);
        KIT.due("steps of the if", run(SMALL, "const 1, if 64, nop, end, const 6").runAt(0, 1), 6);
        gives(3, "const 0, if 64, const 1, if 64, else, end, else, const 3, set 0, end, get 0");
    }

    /** "br goes on behind the end of the block, or, of a loop, at its first instruction; the stack of the block is gone ..." */
    private static void branches() {
        gives(7, "const 1, block 127, const 2, const 3, const 7, br 0, end, set 0, drop, get 0");
        gives(1, "const 1, block 64, const 2, const 3, br 0, end");
        gives(1, "const 1, block 64, const 2, const 3, const 1, br_if 0, drop, drop, end");
        gives(9, "block 127, const 9, const 0, br_if 0, end");
        gives(9, "block 127, const 9, const 0, br_if 0, const 1, drop, end");
        gives(4, "block 127, block 64, const 4, br 1, end, const 5, end");
        gives(5, "block 127, block 64, const 4, br 0, end, const 5, end");
        gives(4, "const 1, if 127, const 4, br 0, else, const 5, end");
        gives(5, "const 0, if 127, const 4, else, const 5, br 0, end");
        gives(3, "loop 64, get 0, const 1, add, tee 0, const 3, lt_s, br_if 0, end, get 0");
        // 9 instructions, and 7 each time more; the loop itself is not done again.
        KIT.due("steps of the loop", run(SMALL, "loop 64, get 0, const 1, add, tee 0, const 3, lt_s, br_if 0, end, get 0")
            .runAt(0, 1), 1 + 3 * 7 + 3);
        Wasmhall hall = hall(SMALL, "const 9, loop 64, const 5, br 0, end");
        hall.step(0, 4);
        KIT.due("at the first instruction of the loop", hall.runAt(0, 10), 2);
        KIT.due("what lay in the loop is gone", hall.runAt(0, 3), 1);
    }

    /** "Behind the last end, or return, the frame is gone" */
    private static void lastEnd() {
        KIT.due("end", run(SMALL, "const 1").runAt(0, 1), 2);
        KIT.due("return", run(SMALL, "const 1, return").runAt(0, 1), 2);
        KIT.due("br", run(SMALL, "const 1, br 0").runAt(0, 1), 2);
        KIT.due("br_if", run(SMALL, "const 1, const 1, br_if 0").runAt(0, 1), 3);
        KIT.due("br_if that is not taken", run(SMALL, "const 1, const 0, br_if 0").runAt(0, 1), 4);
        gives(7, "const 5, const 6, const 7, return");
        gives(7, "const 5, block 64, const 6, const 7, br 1, end");
    }

    /** "TRAPS end a run (the step counts, but does nothing else; frames and stacks stay as they were ahead of it)" */
    private static void trapsLeaveAll() {
        trap(1, "const 5, @unreachable", 5);
        trap(2, "const 5, const 6, const 0, @div_s, drop", 5, 6, 0);
        trap(3, "const 5, const 1021, @load 0, drop", 5, 1021);
        trap(4, "const 5, const 6, @call_indirect 1", 5, 6);
        trap(6, "const 5, const 8, @call 0, drop", 5, 8);
        trap(6, "const 5, const 8, @call 1", 5, 8);
        trap(6, "const 5, const 1, @call 4, drop", 5, 1);
        Wasmhall hall = run(SMALL, "const 7, set 1, unreachable");
        KIT.due("locals stay", hall.localAt(0, 0, 1), 7);
        KIT.refused(hall, "step() behind it", IllegalStateException.class, () -> hall.step(0, 1));
    }

    /** "4 TABLE: an entry that there is not, or none, or of a function of other parameters or value" */
    private static void tableEntries() {
        // Entries: 0 a function of one parameter and a value, 1 of one without a value, 2 of none, 3 none.
        int[] types = Bytes.section(1, Bytes.row(Bytes.type(1, 1), Bytes.type(1, 0), Bytes.type(0, 1), Bytes.type(1, 1)));
        for (int entry = -1; entry <= 5; entry++) {
            for (int type = 0; type < 4; type++) {
                String rest = type == 1 ? ", const 9" : "";
                Wasmhall hall = Kit.read(Bytes.module(types, Bytes.section(3, Bytes.of(4, 2, 0, 1, 2)), Bytes.table(4),
                    Bytes.section(7, Bytes.row(Bytes.exported("a", 0))), Bytes.section(9, Bytes.row(Bytes.element(0, 1, 2, 3))),
                    Bytes.section(10, Bytes.row(Bytes.code(1, Bytes.asm((type == 2 ? "" : "const 5, ") + "const " + entry
                    + ", call_indirect " + type + rest)), Bytes.code(0, Bytes.asm("get 0")), Bytes.code(0),
                    Bytes.code(0, Bytes.asm("const 3"))))));
                KIT.due("fault(true)", hall.fault(true), 0);
                hall.begin(0, 0, 0, 0, 0);
                hall.step(0, 20000);
                boolean fits = type % 3 == entry && entry < 3;
                KIT.due("entry " + entry + " by type " + type, hall.runAt(0, 0), fits ? 1 : 5);
                if (fits) {
                    KIT.due("its word", hall.word(0), new int[] {5, 9, 3}[entry]);
                }
            }
        }
        trap(4, "const -2147483648, @call_indirect 0", MIN);
    }

    /** "the table has what the elements tell, the later ones over the earlier ones" */
    private static void laterElementsOverEarlierOnes() {
        int[] due = {1, 3, 2, -1};
        for (int entry = 0; entry < 4; entry++) {
            Wasmhall hall = Kit.read(Bytes.module(TYPES, Bytes.section(3, Bytes.of(4, 0, 0, 0, 0)), Bytes.table(4),
                Bytes.section(7, Bytes.row(Bytes.exported("a", 0))), Bytes.section(9, Bytes.row(Bytes.element(0, 1, 2),
                Bytes.element(1, 2, 2), Bytes.element(1, 3), Bytes.element(3))), Bytes.section(10, Bytes.row(
                Bytes.code(0, Bytes.asm("const " + entry + ", call_indirect 0")), Bytes.code(0, Bytes.asm("const 1")),
                Bytes.code(0, Bytes.asm("const 2")), Bytes.code(0, Bytes.asm("const 3"))))));
            hall.begin(0, 0, 0, 0, 0);
            hall.step(0, 9);
            KIT.due("the state of entry " + entry, hall.runAt(0, 0), due[entry] < 0 ? 5 : 1);
            KIT.due("the word of entry " + entry, due[entry] < 0 ? -1 : hall.word(0), due[entry]);
        }
    }

    /** A function of the host in the table is called as by call. */
    private static void theHostByTable() {
        Wasmhall hall = Kit.read(Bytes.module(TYPES, HOST, Bytes.section(3, Bytes.of(1, 0)), Bytes.table(5), SMALL,
            Bytes.section(7, Bytes.row(Bytes.exported("a", 5))), Bytes.section(9, Bytes.row(Bytes.element(0, 0, 1, 2, 3, 4))),
            Bytes.section(10, Bytes.row(Bytes.code(2, Bytes.asm("const 7, const 9, const 2, call_indirect 3, const 0,"
            + "call_indirect 1, tee 0, const 1, call_indirect 2, const 3, const 4, call_indirect 1, drop, get 0, const 1,"
            + "call_indirect 2, get 0, const 0, call_indirect 1"))))));
        KIT.due("fault(true)", hall.fault(true), 0);
        hall.begin(0, 0, 0, 0, 0);
        KIT.due("steps", hall.step(0, 20000), 19);
        KIT.due("BROKEN at the end", hall.runAt(0, 0), 7);
        KIT.due("the entry stays on the stack", hall.stackAt(0, 0), 0);
        KIT.due("and the word", hall.stackAt(0, 1), 16);
        KIT.due("and nothing else", hall.runAt(0, 3), 2);
        KIT.due("one cell is left", hall.runAt(0, 5), 1);
        KIT.due("two were given", hall.runAt(0, 7), 2);
    }

    /** "dup (a word, gives it): if it can be divided by 4, the holders of the cell become 1 more" */
    private static void dupOfWords() {
        for (int word : new int[] {1, 2, 3, -1, -2, -3, 5, MAX, 17, 18, 19}) {
            gives(word, "const 1, const 1, call 2, drop, const " + word + ", call 0");
        }
        for (int word : new int[] {0, 4, 8, 12, 20, 24, 28, 32, -4, -16, MIN, 2147483644, 1020, 1024}) {
            trap(6, "const 1, const 1, call 2, drop, const " + word + ", @call 0", word);
            trap(6, "const 1, const 1, call 2, drop, const " + word + ", @call 1, const 1", word);
        }
        gives(16, "const 1, const 1, call 2, call 0");
        gives(2, "const 1, const 1, call 2, call 0, load 0");
    }

    /** "drop (a word, gives nothing): ... they become 1 less; if 0, the cell is FREED" */
    private static void dropOfWords() {
        for (int word : new int[] {1, 2, 3, -1, -2, 17}) {
            gives(5, "const " + word + ", call 1, const 5");
        }
        Wasmhall one = run(SMALL, "const 1, const 1, call 2, call 0, call 1, const 5");
        KIT.due("one holder is left", one.runAt(0, 6), 1);
        KIT.due("the cell is in use", one.runAt(0, 5), 1);
        Wasmhall none = run(SMALL, "const 1, const 1, call 2, call 1, const 5");
        KIT.due("no holder is left", none.runAt(0, 6), 0);
        KIT.due("the cell is freed", none.runAt(0, 5), 0);
        KIT.due("the word stands there", none.memoryAt(0, 16), 0);
        trap(6, "const 1, const 1, call 2, tee 0, call 1, get 0, @call 1, const 5", 16);
    }

    /** "its holders are the word that stands there": they go round, and are freed at 0 alone. */
    private static void holdersGoRound() {
        Wasmhall up = run(SMALL, "const 1, const 1, call 2, tee 0, const 2147483647, store 0, get 0, call 0");
        KIT.due("one more than the greatest", up.memoryAt(0, 16), MIN);
        Wasmhall down = run(SMALL, "const 1, const 1, call 2, tee 0, const -2147483648, store 0, get 0, call 1, const 5");
        KIT.due("one less than the least", down.memoryAt(0, 16), MAX);
        Wasmhall below = run(SMALL, "const 1, const 1, call 2, tee 0, const 0, store 0, get 0, call 1, const 5");
        KIT.due("one less than 0", below.memoryAt(0, 16), -1);
        KIT.due("it is not freed", below.runAt(0, 5), 1);
        Wasmhall up0 = run(SMALL, "const 1, const 1, call 2, tee 0, const -1, store 0, get 0, call 0, drop, get 0, call 0");
        KIT.due("up through 0 frees nothing", up0.runAt(0, 5), 1);
        Wasmhall both = run(SMALL, "const 1, const 1, call 2, const 2147483647, store 0, const 1, const 1, call 2,"
            + "const 2147483647, store 0, const 5");
        KIT.due("holders together go round", both.runAt(0, 6), -2);
    }

    /** "(the first one at 16), as long as 8 + 4 * n bytes"; "shape: 4 * n plus 0 a link, 1 a pair, 2 a function" */
    private static void cellsAsTheyAreGiven() {
        Wasmhall hall = run(SMALL, "const 7, const 9, call 2, drop, const 11, const 13, call 3, drop, const 3, call 4, drop,"
            + "const 2, call 4, drop, const 15, const 17, call 2");
        int[] due = {1, 8, 7, 9, 1, 9, 11, 13, 1, 14, 1, 1, 1, 1, 10, 1, 1, 1, 8, 15, 17, 0};
        for (int i = 0; i < due.length; i++) {
            KIT.due("memoryAt(0, " + (16 + 4 * i) + ")", hall.memoryAt(0, 16 + 4 * i), due[i]);
        }
        KIT.due("nothing ahead of 16", hall.memoryAt(0, 12), 0);
        KIT.due("the last one", hall.word(0), 16 + 16 + 16 + 20 + 16);
        KIT.due("in use", hall.runAt(0, 5), 5);
        KIT.due("holders", hall.runAt(0, 6), 5);
        KIT.due("given", hall.runAt(0, 7), 5);
    }

    /** "of room an n that is not 2 to 80" */
    private static void roomOfTwoTo80() {
        for (int n : new int[] {2, 3, 79, 80}) {
            gives(16, "const " + n + ", call 4");
            gives(4 * n + 2, "const " + n + ", call 4, load 4");
        }
        for (int n : new int[] {1, 81, 0, -1, MIN, MAX}) {
            trap(6, "const " + n + ", @call 4", n);
        }
    }

    /** "if they end beyond the memory, this grows by as many pages as needed" */
    private static void cellsBeyondTheMemory() {
        // Cells of 16 bytes from 16 on: 63 fill a page, 511 all eight.
        String links = "loop 64, const 1, const 1, call 2, drop, get 0, const 1, add, tee 0, const %d, lt_s, br_if 0, end, size";
        for (int[] due : new int[][] {{63, 1}, {64, 2}, {127, 2}, {128, 3}, {511, 8}}) {
            Wasmhall hall = run(SMALL, String.format(links, due[0]));
            KIT.due("pages with " + due[0] + " cells", hall.word(0), due[1]);
            KIT.due("cells", hall.runAt(0, 5), due[0]);
        }
        Wasmhall full = run(SMALL, String.format(links, 512));
        KIT.due("no room for the 512th", full.runAt(0, 0), 4);
        KIT.due("511 were given", full.runAt(0, 7), 511);
        KIT.due("its words stay", full.runAt(0, 3), 2);
        KIT.due("pages", full.runAt(0, 4), 8);
        // The machine's own growing counts, too.
        Wasmhall grown = run(SMALL, "const 3, grow, drop, " + String.format(links, 255));
        KIT.due("four pages are enough", grown.word(0), 4);
    }

    /** "(if they are more than at most, by none)" */
    private static void cellsThatNeedManyPages() {
        // 80 fields are 328 bytes: 16 + 3 * 328 = 1000 ends in the first page, the fourth one needs a second one.
        String three = "const 80, call 4, drop, const 80, call 4, drop, const 80, call 4, drop, ";
        KIT.due("three in a page", run(Bytes.memory(1, 1), three + "size").word(0), 1);
        Wasmhall four = run(Bytes.memory(1, 1), three + "const 80, call 4");
        KIT.due("a fourth one", four.runAt(0, 0), 4);
        KIT.due("n stays", four.stackAt(0, 0), 80);
        KIT.due("pages", four.runAt(0, 4), 1);
        KIT.due("a smaller one", run(Bytes.memory(1, 1), three + "const 4, call 4").word(0), 1000);
        KIT.due("one that is one field too long", run(Bytes.memory(1, 1), three + "const 5, call 4").runAt(0, 0), 4);
        Wasmhall none = run(Bytes.memory(0, 2), "const 80, call 4, drop, size");
        KIT.due("from no page to one", none.word(0), 1);
        KIT.due("no pages at all", run(Bytes.memory(0, 0), "const 1, const 2, call 3").runAt(0, 0), 4);
        KIT.due("no memory at all", run(Bytes.of(), "const 1, const 2, call 2").runAt(0, 0), 4);
        KIT.due("room without a memory", run(Bytes.of(), "const 2, call 4").runAt(0, 0), 4);
        KIT.due("a wrong n without a memory is BROKEN", run(Bytes.of(), "const 1, call 4").runAt(0, 0), 7);
        // A freed one is given again, though there is no room for a new one.
        Wasmhall again = run(Bytes.memory(1, 1), three + "const 344, call 1, const 80, call 4");
        KIT.due("the freed one", again.word(0), 344);
    }

    /** "it is the one that was freed latest of as many fields" */
    private static void cellsFreedAndGivenAgain() {
        String three = "const 1, const 1, call 2, drop, const 1, const 1, call 3, drop, const 2, call 4, drop, ";
        String drops = "const 16, call 1, const 48, call 1, const 32, call 1, ";
        gives(32, three + drops + "const 2, call 4");
        gives(48, three + drops + "const 2, call 4, drop, const 1, const 1, call 2");
        gives(16, three + drops + "const 2, call 4, drop, const 1, const 1, call 2, drop, const 1, const 1, call 3");
        gives(64, three + drops + "const 2, call 4, drop, const 1, const 1, call 2, drop, const 1, const 1, call 3, drop,"
            + "const 1, const 1, call 3");
        // Of other fields none is taken.
        gives(64, three + drops + "const 3, call 4");
        // All words of it are new.
        gives(8, three + drops + "const 5, const 7, call 2, load 4");
        gives(1, three + "const 32, const 99, store 8, " + drops + "const 2, call 4, load 8");
        Wasmhall hall = run(SMALL, three + drops + "const 5, const 7, call 2");
        KIT.due("one holder", hall.memoryAt(0, 32), 1);
        KIT.due("in use", hall.runAt(0, 5), 1);
        KIT.due("each giving counts", hall.runAt(0, 7), 4);
    }

    /** "it comes into a row; again and again, of the first one of the row, of each field, in order" */
    private static void rowOfFreedCells() {
        // 16 and 32 are links, 48 a pair of them, 64 a pair of 48 and a link 80: freed are 64, 48, 80, 16, 32.
        String tree = "const 1, const 1, call 2, drop, const 1, const 1, call 2, drop, const 16, const 32, call 3, drop,"
            + "const 1, const 1, call 3, drop, const 1, const 1, call 2, drop, const 64, const 48, store 8, const 64, const 80,"
            + "store 12, const 64, call 1, ";
        int[] due = {32, 16, 80, 48, 64};
        StringBuilder rest = new StringBuilder();
        for (int i = 0; i < 5; i++) {
            gives(due[i], tree + rest + "const 1, const 1, call 2");
            rest.append("const 1, const 1, call 2, drop, ");
        }
        KIT.due("five freed", run(SMALL, tree + "const 1").runAt(0, 5), 0);
        // One with another holder stays.
        Wasmhall held = run(SMALL, tree.replace("const 64, call 1", "const 48, call 0, drop, const 64, call 1") + "const 1");
        KIT.due("three stay", held.runAt(0, 5), 3);
        KIT.due("with three holders", held.runAt(0, 6), 3);
    }

    /** "then it is freed (it is in use up to then, also while its fields are gone through)" */
    private static void inUseUpToThen() {
        Wasmhall self = run(SMALL, "const 1, const 1, call 2, tee 0, get 0, store 8, get 0, call 1, const 5");
        KIT.due("a cell that holds itself", self.runAt(0, 0), 1);
        KIT.due("is freed", self.runAt(0, 5), 0);
        KIT.due("with one less than 0", self.memoryAt(0, 16), -1);
        // 16 holds 32 and 32 holds 16: 32 is gone through when 16 is freed already.
        Wasmhall ring = run(SMALL, "const 1, const 1, call 2, const 1, const 1, call 2, drop, drop, const 16, const 32, store 8,"
            + "const 32, const 16, store 8, const 16, call 1, const 5");
        KIT.due("a ring is BROKEN", ring.runAt(0, 0), 7);
        KIT.due("the first one was freed", ring.runAt(0, 5), 1);
        KIT.due("the other one is in use", ring.runAt(0, 6), 0);
        // Twice the same field: 1 less, then 1 less again; at 0 it comes into the row, and is freed once.
        Wasmhall twice = run(SMALL, "const 1, const 1, call 2, call 0, drop, const 16, const 16, call 3, call 1, const 5");
        KIT.due("twice the same field", twice.runAt(0, 0), 1);
        KIT.due("both are freed", twice.runAt(0, 5), 0);
    }

    /** "(a field likewise)"; "(What a drop has done ahead of a field that is BROKEN stays.)" */
    private static void brokenFields() {
        Wasmhall first = run(SMALL, "const 1, const 1, call 2, drop, const 8, const 16, call 3, call 1, const 5");
        KIT.due("BROKEN", first.runAt(0, 0), 7);
        KIT.due("the second field is not reached", first.memoryAt(0, 16), 1);
        KIT.due("the pair has lost its holder", first.memoryAt(0, 32), 0);
        KIT.due("both are in use", first.runAt(0, 5), 2);
        KIT.due("the word stays", first.stackAt(0, 0), 32);
        Wasmhall second = run(SMALL, "const 1, const 1, call 2, drop, const 16, const 8, call 3, call 1, const 5");
        KIT.due("BROKEN behind it", second.runAt(0, 0), 7);
        KIT.due("the first field has lost its holder", second.memoryAt(0, 16), 0);
        KIT.due("but is in use", second.runAt(0, 5), 2);
        // In a row: the pair is freed when its link is gone through.
        Wasmhall third = run(SMALL, "const 8, const 1, call 2, drop, const 16, const 1, call 3, call 1, const 5");
        KIT.due("BROKEN in the second one", third.runAt(0, 0), 7);
        KIT.due("the pair was freed", third.runAt(0, 5), 1);
        KIT.due("the link was not", third.memoryAt(0, 16), 0);
        for (int field : new int[] {1, 2, 3, -1}) {
            KIT.due("a field of " + field, run(SMALL, "const " + field + ", const 1, call 2, call 1, const 5").runAt(0, 0), 1);
        }
    }

    private static Wasmhall exports() {
        return Kit.read(Bytes.module(TYPES, HOST, Bytes.section(3, Bytes.of(5, 0, 1, 3, 5, 6)), Bytes.section(7, Bytes.row(
            Bytes.exported("a", 5), Bytes.exported("b", 6), Bytes.exported("c", 7), Bytes.exported("d", 8), Bytes.exported("e", 9),
            Bytes.exported("f", 0))), Bytes.section(10, Bytes.row(Bytes.code(0, Bytes.asm("const 1")), Bytes.code(0,
            Bytes.asm("get 0")), Bytes.code(0, Bytes.asm("get 1")), Bytes.code(0, Bytes.asm("get 2")), Bytes.code(0,
            Bytes.asm("get 3"))))));
    }

    /** "if the function has more than 3 parameters, ..., or the export is an import" */
    private static void beginAnExport() {
        Wasmhall hall = exports();
        int[] due = {1, 21, -1, -2147483647};
        for (int export = 0; export < 4; export++) {
            KIT.due("begin(0, " + export + ")", hall.begin(0, export, 10, -1, -1073741824), export);
            hall.step(export, 9);
            KIT.due("its word", hall.word(export), due[export]);
        }
        KIT.refused(hall, "4 parameters", IllegalStateException.class, () -> hall.begin(0, 4, 1, 1, 1));
        KIT.refused(hall, "an import", IllegalStateException.class, () -> hall.begin(0, 5, 1, 1, 1));
        KIT.refused(hall, "an import ahead of a number beyond", IllegalStateException.class, () -> hall.begin(0, 5, MAX, 1, 1));
        KIT.refused(hall, "export -1", IndexOutOfBoundsException.class, () -> hall.begin(0, -1, 1, 1, 1));
        KIT.refused(hall, "export 6", IndexOutOfBoundsException.class, () -> hall.begin(0, 6, MAX, 1, 1));
        KIT.refused(hall, "module 1", IndexOutOfBoundsException.class, () -> hall.begin(1, 0, 1, 1, 1));
        KIT.refused(hall, "module -1", IndexOutOfBoundsException.class, () -> hall.begin(-1, 9, MAX, 1, 1));
        for (int export = 1; export < 4; export++) {
            int which = export;
            for (int n : new int[] {1073741824, -1073741825, MIN, MAX}) {
                int a = export == 1 ? n : 0;
                int b = export == 2 ? n : 0;
                int c = export == 3 ? n : 0;
                KIT.refused(hall, "a number beyond", IllegalArgumentException.class, () -> hall.begin(0, which, a, b, c));
            }
        }
        KIT.due("numbers that do not matter", hall.begin(0, 1, 5, MAX, MIN), 4);
        KIT.due("the greatest one", hall.begin(0, 1, 1073741823, 0, 0), 5);
        KIT.due("its word at first", hall.localAt(5, 0, 0), MAX);
    }

    /** "there are 6 runs" */
    private static void sixRuns() {
        Wasmhall hall = exports();
        for (int i = 0; i < 6; i++) {
            KIT.due("begin()", hall.begin(0, 1, i, 0, 0), i);
        }
        KIT.refused(hall, "a 7th run", IllegalStateException.class, () -> hall.begin(0, 1, 0, 0, 0));
        KIT.refused(hall, "a 7th run ahead of a number beyond", IllegalStateException.class, () -> hall.begin(0, 1, MAX, 0, 0));
        KIT.refused(hall, "no export ahead of that", IndexOutOfBoundsException.class, () -> hall.begin(0, 6, MAX, 0, 0));
        hall.step(0, 9);
        KIT.refused(hall, "one that has ended is there, too", IllegalStateException.class, () -> hall.begin(0, 1, 0, 0, 0));
        KIT.due("dropRun(0)", hall.dropRun(0), 5);
        KIT.due("begin() again", hall.begin(0, 1, 9, 0, 0), 5);
    }

    /** "steps: 1 to 20000", "Returns how many it did; fewer if it ends." */
    private static void stepsOfACall() {
        Wasmhall hall = hall(SMALL, "loop 64, get 0, const 1, add, tee 0, const 4997, lt_s, br_if 0, end, const 1");
        KIT.refused(hall, "step(0, 0)", IllegalArgumentException.class, () -> hall.step(0, 0));
        KIT.refused(hall, "step(0, -1)", IllegalArgumentException.class, () -> hall.step(0, -1));
        KIT.refused(hall, "step(0, 20001)", IllegalArgumentException.class, () -> hall.step(0, 20001));
        KIT.refused(hall, "step(1, 0)", IndexOutOfBoundsException.class, () -> hall.step(1, 0));
        KIT.refused(hall, "step(-1, 1)", IndexOutOfBoundsException.class, () -> hall.step(-1, 1));
        int all = 1 + 7 * 4997 + 3;
        KIT.due("step(0, 1)", hall.step(0, 1), 1);
        KIT.due("step(0, 20000)", hall.step(0, 20000), 20000);
        KIT.due("up to the last but one", hall.step(0, all - 20002), all - 20002);
        KIT.due("it goes", hall.runAt(0, 0), 0);
        KIT.due("the last one", hall.step(0, 20000), 1);
        KIT.due("it has ended", hall.runAt(0, 0), 1);
        KIT.due("steps in all", hall.runAt(0, 1), all);
        KIT.refused(hall, "step(0, 1)", IllegalStateException.class, () -> hall.step(0, 1));
        KIT.refused(hall, "no steps ahead of that", IllegalArgumentException.class, () -> hall.step(0, 0));
    }

    /** "what: 0 its state ... 11 1 if its value was given back" */
    private static void questionsOfARun() {
        Wasmhall hall = Kit.made("def f x = [x];", 0);
        hall.begin(0, 0, 3, 0, 0);
        int[][] due = {{0, 0, 1, 0, 1, 0, 0, 0, 1, 6, 0, 0}, {0, 1, 1, 1, 1, 0, 0, 0, 1, 6, 1, 0}, {0, 2, 1, 2, 1, 0, 0, 0, 1, 6, 2, 0},
            {0, 3, 1, 1, 1, 1, 1, 1, 1, 6, 3, 0}, {1, 4, 0, 0, 1, 1, 1, 1, 1, -1, -1, 0}};
        for (int i = 0; i < due.length; i++) {
            for (int what = 0; what < 12; what++) {
                KIT.due("runAt(0, " + what + ") behind " + i + " steps", hall.runAt(0, what), due[i][what]);
            }
            if (i < 4) {
                hall.step(0, 1);
            }
        }
        hall.giveBack(0);
        int[] back = {1, 4, 0, 0, 1, 0, 0, 1, 1, -1, -1, 1};
        for (int what = 0; what < 12; what++) {
            KIT.due("runAt(0, " + what + ") behind giveBack()", hall.runAt(0, what), back[what]);
        }
        KIT.refused(hall, "runAt(0, -1)", IllegalArgumentException.class, () -> hall.runAt(0, -1));
        KIT.refused(hall, "runAt(0, 12)", IllegalArgumentException.class, () -> hall.runAt(0, 12));
        KIT.refused(hall, "runAt(1, 12)", IndexOutOfBoundsException.class, () -> hall.runAt(1, 12));
        KIT.refused(hall, "runAt(-1, 0)", IndexOutOfBoundsException.class, () -> hall.runAt(-1, 0));
    }

    /** "2 to 7 it was ended by the trap 1 to 6"; "(both NONE if it has ended, also by a trap)" */
    private static void questionsByATrap() {
        String[] words = {"unreachable", "const 1, const 0, div_s", "const -1, load 0", "const 1, call_indirect 0", "call 5",
            "const 0, call 0"};
        for (int trap = 1; trap <= 6; trap++) {
            Wasmhall hall = run(SMALL, words[trap - 1]);
            KIT.due("the state by trap " + trap, hall.runAt(0, 0), 1 + trap);
            KIT.due("no function", hall.runAt(0, 9), -1);
            KIT.due("no instruction", hall.runAt(0, 10), -1);
            KIT.due("frames", hall.runAt(0, 2), trap == 5 ? 80 : 1);
            KIT.refused(hall, "word(0)", NoSuchElementException.class, () -> hall.word(0));
            KIT.refused(hall, "value(0)", NoSuchElementException.class, () -> hall.value(0));
            KIT.refused(hall, "giveBack(0)", NoSuchElementException.class, () -> hall.giveBack(0));
            KIT.refused(hall, "step(0, 1)", IllegalStateException.class, () -> hall.step(0, 1));
        }
    }

    /** "Returns the word; 0 if the function gives none." */
    private static void wordOfARun() {
        Wasmhall hall = Kit.read(Bytes.module(TYPES, Bytes.section(3, Bytes.of(2, 4, 0)), Bytes.section(7, Bytes.row(
            Bytes.exported("a", 0), Bytes.exported("b", 1))), Bytes.section(10, Bytes.row(Bytes.code(1, Bytes.asm(
            "const 5, set 0")), Bytes.code(0, Bytes.asm("const -2147483648"))))));
        hall.begin(0, 0, 0, 0, 0);
        hall.step(0, 2);
        KIT.refused(hall, "word(0) of one that goes", NoSuchElementException.class, () -> hall.word(0));
        hall.step(0, 1);
        KIT.due("word(0) of a function without a value", hall.word(0), 0);
        hall.begin(0, 1, 0, 0, 0);
        hall.step(1, 2);
        KIT.due("word(1)", hall.word(1), MIN);
        KIT.refused(hall, "word(2)", IndexOutOfBoundsException.class, () -> hall.word(2));
        KIT.refused(hall, "word(-1)", IndexOutOfBoundsException.class, () -> hall.word(-1));
    }

    /** "if it has not ended, or by a trap, was given back, or the module was read" */
    private static void valueOfARun() {
        Wasmhall hall = Kit.made("def f x = [1 / x];", 0);
        hall.begin(0, 0, 1, 0, 0);
        KIT.refused(hall, "value(0) of one that goes", NoSuchElementException.class, () -> hall.value(0));
        hall.step(0, 20000);
        KIT.due("value(0)", hall.value(0), 3);
        KIT.due("its output", Kit.output(hall), "[1]");
        KIT.due("value(0) again", hall.value(0), 3);
        hall.giveBack(0);
        KIT.refused(hall, "value(0) that was given back", NoSuchElementException.class, () -> hall.value(0));
        KIT.due("the output stays", Kit.output(hall), "[1]");
        hall.begin(0, 0, 0, 0, 0);
        hall.step(1, 20000);
        KIT.refused(hall, "value(1) of a trap", NoSuchElementException.class, () -> hall.value(1));
        hall.write(0);
        hall.read();
        hall.begin(1, 0, 1, 0, 0);
        hall.step(2, 20000);
        KIT.due("the read one has ended", hall.runAt(2, 0), 1);
        KIT.refused(hall, "value(2) of a read module", NoSuchElementException.class, () -> hall.value(2));
        KIT.refused(hall, "giveBack(2) of a read module", NoSuchElementException.class, () -> hall.giveBack(2));
        KIT.refused(hall, "value(3)", IndexOutOfBoundsException.class, () -> hall.value(3));
        KIT.refused(hall, "value(-1)", IndexOutOfBoundsException.class, () -> hall.value(-1));
    }

    /** "Returns how many cells were freed by this." */
    private static void givingBack() {
        String text = "def f x = x; def g x = [(x, [x]), (x, [])]; def h x = let l = [x] in (l, (l, l)); def k x = [];";
        int[] cells = {0, 5, 3, 0};
        for (int d = 0; d < 4; d++) {
            Wasmhall hall = Kit.made(text, d % 2);
            hall.begin(0, d, 7, 0, 0);
            KIT.refused(hall, "giveBack(0) of one that goes", NoSuchElementException.class, () -> hall.giveBack(0));
            hall.step(0, 20000);
            KIT.due("cells in use", hall.runAt(0, 5), cells[d]);
            KIT.due("giveBack(0)", hall.giveBack(0), cells[d]);
            KIT.due("no cells", hall.runAt(0, 5), 0);
            KIT.due("given back", hall.runAt(0, 11), 1);
            KIT.refused(hall, "giveBack(0) again", NoSuchElementException.class, () -> hall.giveBack(0));
            KIT.refused(hall, "giveBack(1)", IndexOutOfBoundsException.class, () -> hall.giveBack(1));
            KIT.refused(hall, "giveBack(-1)", IndexOutOfBoundsException.class, () -> hall.giveBack(-1));
            KIT.due("errors()", hall.errors(), 0);
        }
    }

    /** "depth: 0 for the top" */
    private static void stacks() {
        Wasmhall hall = hall(SMALL, "const 5, const 6, const 7, call 5, drop, drop, drop");
        KIT.refused(hall, "an empty stack", NoSuchElementException.class, () -> hall.stackAt(0, 0));
        hall.step(0, 3);
        for (int depth = 0; depth < 3; depth++) {
            KIT.due("stackAt(0, " + depth + ")", hall.stackAt(0, depth), 7 - depth);
        }
        KIT.refused(hall, "stackAt(0, 3)", NoSuchElementException.class, () -> hall.stackAt(0, 3));
        KIT.refused(hall, "stackAt(0, -1)", NoSuchElementException.class, () -> hall.stackAt(0, -1));
        KIT.refused(hall, "stackAt(0, MAX)", NoSuchElementException.class, () -> hall.stackAt(0, MAX));
        KIT.refused(hall, "stackAt(0, MIN)", NoSuchElementException.class, () -> hall.stackAt(0, MIN));
        KIT.refused(hall, "stackAt(1, -1)", IndexOutOfBoundsException.class, () -> hall.stackAt(1, -1));
        hall.step(0, 1);
        KIT.refused(hall, "the stack of the newest frame alone", NoSuchElementException.class, () -> hall.stackAt(0, 0));
        KIT.due("words on all stacks", hall.runAt(0, 3), 3);
        Wasmhall ended = run(SMALL, "const 5");
        KIT.refused(ended, "no frame", NoSuchElementException.class, () -> ended.stackAt(0, 0));
    }

    /** "if there is no such frame or local" */
    private static void locals() {
        Wasmhall hall = counter(2, "call 0");
        hall.begin(0, 0, 5, 0, 0);
        hall.step(1, 9);
        KIT.due("frames", hall.runAt(1, 2), 2);
        KIT.due("localAt(1, 0, 0)", hall.localAt(1, 0, 0), 9);
        KIT.due("localAt(1, 1, 0)", hall.localAt(1, 1, 0), 11);
        int[][] wrong = {{2, 0}, {-1, 0}, {0, 1}, {1, 1}, {0, -1}, {MAX, 0}, {0, MAX}, {MIN, MIN}};
        for (int[] one : wrong) {
            KIT.refused(hall, "localAt(1, " + one[0] + ", " + one[1] + ")", NoSuchElementException.class,
                () -> hall.localAt(1, one[0], one[1]));
            KIT.refused(hall, "no run ahead of that", IndexOutOfBoundsException.class, () -> hall.localAt(2, one[0], one[1]));
        }
        KIT.refused(hall, "localAt(0, 0, 0) of one that has ended", NoSuchElementException.class, () -> hall.localAt(0, 0, 0));
        Wasmhall two = hall(SMALL, "const 7, set 1, const 1");
        two.step(0, 2);
        KIT.due("a local is 0 at first", two.localAt(0, 0, 0), 0);
        KIT.due("one that was set", two.localAt(0, 0, 1), 7);
        KIT.refused(two, "localAt(0, 0, 2)", NoSuchElementException.class, () -> two.localAt(0, 0, 2));
    }

    /** "if not all four bytes are in the memory" */
    private static void memoryOfARun() {
        Wasmhall hall = run(SMALL, "const 1, grow");
        KIT.due("memoryAt(0, 0)", hall.memoryAt(0, 0), 0);
        KIT.due("memoryAt(0, 2044)", hall.memoryAt(0, 2044), 0);
        for (int place : new int[] {-1, -4, 2045, 2046, 2047, 2048, MAX, MIN}) {
            KIT.refused(hall, "memoryAt(0, " + place + ")", IllegalArgumentException.class, () -> hall.memoryAt(0, place));
        }
        KIT.refused(hall, "memoryAt(1, -1)", IndexOutOfBoundsException.class, () -> hall.memoryAt(1, -1));
        Wasmhall none = hall(Bytes.of(), "const 1");
        KIT.refused(none, "memoryAt(0, 0) without a memory", IllegalArgumentException.class, () -> none.memoryAt(0, 0));
    }

    /** "those behind it get a number that is less by 1", "Returns how many are left." */
    private static void dropRun() {
        Wasmhall hall = exports();
        for (int i = 0; i < 6; i++) {
            hall.begin(0, 1, i, 0, 0);
        }
        KIT.refused(hall, "dropRun(6)", IndexOutOfBoundsException.class, () -> hall.dropRun(6));
        KIT.refused(hall, "dropRun(-1)", IndexOutOfBoundsException.class, () -> hall.dropRun(-1));
        KIT.due("the last one", hall.dropRun(5), 5);
        KIT.due("the first one", hall.dropRun(0), 4);
        KIT.due("one in between", hall.dropRun(1), 3);
        int[] left = {1, 3, 4};
        for (int i = 0; i < 3; i++) {
            KIT.due("the parameter of run " + i, hall.localAt(i, 0, 0), 2 * left[i] + 1);
        }
        KIT.refused(hall, "dropRun(3)", IndexOutOfBoundsException.class, () -> hall.dropRun(3));
        for (int i = 2; i >= 0; i--) {
            KIT.due("dropRun(0)", hall.dropRun(0), i);
        }
        KIT.refused(hall, "dropRun(0) of none", IndexOutOfBoundsException.class, () -> hall.dropRun(0));
    }
}
