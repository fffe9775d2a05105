/** The bounds that section 7 of the document names: what is VALID and what is not, each rule on its own. */
public final class ValidBoundsTest {
    private static final Kit KIT = new Kit();
    private static final int[] TYPES = Bytes.section(1, Bytes.row(Bytes.type(1, 1), Bytes.type(1, 0), Bytes.type(2, 1),
        Bytes.type(0, 1), Bytes.type(0, 0), Bytes.type(3, 0)));
    private static final int[] HOST = Bytes.section(2, Bytes.row(Bytes.imported("dup", 0), Bytes.imported("drop", 1)));

    public static void main(String[] args) {
        takesOfEachInstruction();
        wordsBelowTheHeight();
        deadInstructionsTakeNothing();
        deadInstructionsTakeWhatLiesThere();
        whatMakesDead();
        deadUpToElseAndEnd();
        blocksInDeadCode();
        localsThereAre();
        functionsThereAre();
        typesThereAre();
        blocksOutThereAre();
        memoryThereIs();
        tableThereIs();
        brTakesAValue();
        brIfPutsItAgain();
        loopsTakeNone();
        returnOfTheFunction();
        ifTakesItsTest();
        elseInAnIfAlone();
        justTheValueAtEnd();
        justTheValueAtElse();
        deadEnds();
        valueBehindEnd();
        ifWithAValueHasAnElse();
        theFunctionItself();
        theFirstOneCounts();
        KIT.end();
    }

    /** A module with dup 0, drop 1, a function 2 of nothing, and 3: one parameter, one local, and this body. */
    private static int[] module(boolean hasValue, String words) {
        return Bytes.module(TYPES, HOST, Bytes.section(3, Bytes.of(2, 4, hasValue ? 0 : 1)), Bytes.table(1), Bytes.memory(1, 2),
            Bytes.section(10, Bytes.row(Bytes.code(0), Bytes.code(1, Bytes.asm(words)))));
    }

    /**
     * Holds a body against the rules: the @ stands ahead of the instruction that is not VALID; at the last end it stands
     * alone. Blocks that are left open are closed behind it.
     */
    private static void hold(boolean hasValue, String words) {
        int open = 0;
        for (String one : words.replace("@", "").split(",")) {
            String name = one.trim().split(" ")[0];
            open += name.equals("block") || name.equals("loop") || name.equals("if") ? 1 : name.equals("end") ? -1 : 0;
        }
        Wasmhall hall = Kit.read(module(hasValue, words.replace("@", "") + ", end".repeat(open)));
        int at = words.indexOf('@');
        int place = 0;
        for (int i = 0; i < at; i++) {
            place += words.charAt(i) == ',' ? 1 : 0;
        }
        KIT.due((hasValue ? "with a value: " : "without: ") + words, hall.fault(true) + " " + hall.fault(false),
            at < 0 ? "0 -1" : "3 " + (30000 + place));
    }

    private static void value(String words) {
        hold(true, words);
    }

    private static void none(String words) {
        hold(false, words);
    }

    private static final String[] INSTRUCTIONS = {"nop", "drop", "select", "get 0", "set 0", "tee 0", "load 0", "store 0", "size",
        "grow", "const 0", "eqz", "eq", "ne", "lt_s", "lt_u", "gt_s", "le_s", "ge_s", "add", "sub", "mul", "div_s", "rem_s", "and",
        "or", "xor", "shl", "shr_s", "shr_u", "call 0", "call 1", "call 2", "call_indirect 0", "call_indirect 2",
        "call_indirect 4", "call_indirect 5"};
    private static final int[] TAKES = {0, 1, 3, 0, 1, 1, 1, 2, 0, 1, 0, 1, 2, 2, 2, 2, 2, 2, 2, 2, 2, 2, 2, 2, 2, 2, 2, 2, 2, 2,
        1, 1, 0, 2, 3, 1, 4};
    private static final int[] PUTS = {0, 0, 1, 1, 0, 1, 1, 0, 1, 1, 1, 1, 1, 1, 1, 1, 1, 1, 1, 1, 1, 1, 1, 1, 1, 1, 1, 1, 1, 1,
        1, 0, 0, 1, 1, 0, 0};

    private static String words(int many) {
        return "const 7, ".repeat(many);
    }

    private static String drops(int many) {
        return ", drop".repeat(many);
    }

    /** "Each instruction takes and puts as it does" */
    private static void takesOfEachInstruction() {
        for (int i = 0; i < INSTRUCTIONS.length; i++) {
            none(words(TAKES[i]) + INSTRUCTIONS[i] + drops(PUTS[i]));
            none(words(TAKES[i]) + INSTRUCTIONS[i] + drops(PUTS[i]) + ", @drop");
            if (PUTS[i] > 0) {
                none(words(TAKES[i]) + INSTRUCTIONS[i] + ", @");
                value(words(TAKES[i]) + INSTRUCTIONS[i]);
            } else {
                value(words(TAKES[i]) + INSTRUCTIONS[i] + ", @");
            }
            for (int fewer = 0; fewer < TAKES[i]; fewer++) {
                none(words(fewer) + "@" + INSTRUCTIONS[i]);
            }
        }
    }

    /** "A word can be taken only if more than the height lie there" */
    private static void wordsBelowTheHeight() {
        for (int i = 0; i < INSTRUCTIONS.length; i++) {
            if (TAKES[i] > 0) {
                none(words(4) + "block 64, " + words(TAKES[i] - 1) + "@" + INSTRUCTIONS[i]);
                none(words(4) + "loop 64, " + words(TAKES[i] - 1) + "@" + INSTRUCTIONS[i]);
                none(words(4) + "if 64, " + words(TAKES[i] - 1) + "@" + INSTRUCTIONS[i]);
                none(words(4) + "if 64, else, " + words(TAKES[i] - 1) + "@" + INSTRUCTIONS[i]);
            }
            none("block 64, " + words(TAKES[i]) + INSTRUCTIONS[i] + drops(PUTS[i]) + ", end");
        }
        none("const 1, block 64, end, drop");
        none("const 1, block 64, @drop, end");
    }

    /** "or if the instruction is DEAD ...: if none lies above it, taking takes nothing" */
    private static void deadInstructionsTakeNothing() {
        for (int i = 0; i < INSTRUCTIONS.length; i++) {
            for (int some = 0; some <= TAKES[i]; some++) {
                none("unreachable, " + words(some) + INSTRUCTIONS[i] + drops(PUTS[i]));
                none("const 5, block 64, unreachable, " + words(some) + INSTRUCTIONS[i] + drops(PUTS[i]) + ", end, drop");
            }
            if (PUTS[i] > 0) {
                none("unreachable, " + INSTRUCTIONS[i] + ", @");
                value("unreachable, " + INSTRUCTIONS[i]);
            }
        }
        none("unreachable, drop, drop, drop");
        none("unreachable, if 64, end");
        none("unreachable, br_if 0");
    }

    /** Words that were put in dead code lie there, and are taken first. */
    private static void deadInstructionsTakeWhatLiesThere() {
        none("unreachable, const 1, const 2, drop, drop");
        none("unreachable, const 1, const 2, drop, @");
        value("unreachable, const 1, const 2, drop");
        value("unreachable, const 1, const 2, @");
        none("unreachable, select, drop");
        none("unreachable, select, @");
        none("unreachable, const 1, const 2, const 3, const 4, select, drop, drop");
        none("unreachable, const 1, const 2, const 3, const 4, select, drop, @");
    }

    /** "behind an unreachable, br or return of its block"; "there the stack is at the height again" */
    private static void whatMakesDead() {
        for (String dead : new String[] {"unreachable", "br 0", "return"}) {
            none(dead + ", drop");
            none("const 1, const 2, " + dead + ", drop");
            none("const 1, const 2, " + dead);
            none("const 1, const 2, block 64, const 3, " + dead + ", add, drop, end, drop, drop");
        }
        none("const 0, br_if 0, @drop");
        none("nop, @drop");
        none("call 2, @drop");
        none("const 0, if 64, unreachable, end, @drop");
    }

    /** "(up to the else or end)" */
    private static void deadUpToElseAndEnd() {
        none("block 64, unreachable, drop, end, @drop");
        none("loop 64, br 0, drop, end, @drop");
        none("const 1, if 64, return, drop, else, @drop");
        none("const 1, if 64, nop, else, return, drop, end, @drop");
        none("const 1, if 64, else, br 0, drop, end, @drop");
        none("block 64, unreachable, block 64, unreachable, end, drop, end, @drop");
        none("unreachable, block 64, end, drop");
    }

    /** A block that begins in dead code is not DEAD itself, and its height is that of the stack there. */
    private static void blocksInDeadCode() {
        none("unreachable, block 64, @drop");
        none("unreachable, loop 64, @drop");
        none("unreachable, if 64, @drop");
        none("unreachable, const 1, block 64, @drop");
        none("unreachable, const 1, block 64, end, drop");
        none("unreachable, block 127, const 1, end, drop");
        none("unreachable, block 127, @end");
        value("unreachable, block 127, unreachable, end");
    }

    /** "local ... must be there": parameters, then locals. */
    private static void localsThereAre() {
        none("get 0, set 1, const 1, tee 1, drop");
        none("@get 2");
        none("const 1, @set 2");
        none("const 1, @tee 2");
        none("@get 4294967295");
        none("unreachable, @get 2");
        none("unreachable, @set 3");
    }

    /** "function ... must be there": imports and own ones. */
    private static void functionsThereAre() {
        none("const 1, call 0, drop");
        none("const 1, call 3");
        none("const 1, @call 4");
        none("@call 4294967295");
        none("unreachable, @call 4");
    }

    /** "type ... must be there" */
    private static void typesThereAre() {
        none("const 1, const 1, const 1, const 0, call_indirect 5");
        none("const 1, const 1, const 1, const 0, @call_indirect 6");
        none("unreachable, @call_indirect 6");
        none("unreachable, @call_indirect 4294967295");
    }

    /** "(the blocks out from 0, the innermost, to the function itself)" */
    private static void blocksOutThereAre() {
        none("br 0");
        none("@br 1");
        none("block 64, br 1, end");
        none("block 64, @br 2, end");
        none("const 0, br_if 0");
        none("const 0, @br_if 1");
        none("block 64, loop 64, const 0, if 64, br 3, end, end, end");
        none("block 64, loop 64, const 0, if 64, @br 4, end, end, end");
        none("unreachable, @br 1");
        none("unreachable, @br_if 4294967295");
        none("block 64, end, @br 1");
    }

    private static void bare(String words, boolean isGood, int[]... sections) {
        int place = 0;
        for (int i = 0; i < Math.max(0, words.indexOf('@')); i++) {
            place += words.charAt(i) == ',' ? 1 : 0;
        }
        Wasmhall hall = Kit.read(Bytes.module(TYPES, Bytes.section(3, Bytes.of(1, 4)), Bytes.join(sections), Bytes.section(10,
            Bytes.row(Bytes.code(0, Bytes.asm(words))))));
        KIT.due(words + " in a bare module", hall.fault(true) + " " + hall.fault(false), isGood ? "0 -1" : "3 " + place);
    }

    /** "a memory must be there for load, store, size, grow" */
    private static void memoryThereIs() {
        String[] words = {"const 0, @load 0, drop", "const 0, const 1, @store 0", "@size, drop", "const 1, @grow, drop",
            "unreachable, @load 0, drop", "unreachable, @size, drop"};
        for (String one : words) {
            bare(one, false);
            bare(one, false, Bytes.table(1));
            bare(one, true, Bytes.memory(0, 0));
        }
    }

    /** "a table for call_indirect" */
    private static void tableThereIs() {
        bare("const 0, @call_indirect 4", false);
        bare("const 0, @call_indirect 4", false, Bytes.memory(1, 1));
        bare("const 0, @call_indirect 4", true, Bytes.table(0));
        bare("unreachable, @call_indirect 4", false);
    }

    /** "br to a block: if it has a value, and is no loop, takes one word" */
    private static void brTakesAValue() {
        none("block 127, const 1, br 0, end, drop");
        none("block 127, @br 0, end, drop");
        none("const 1, block 127, @br 0, end, drop, drop");
        none("block 127, block 64, const 1, br 1, end, const 2, end, drop");
        none("block 127, block 64, @br 1, end, const 2, end, drop");
        none("block 64, br 0, end");
        none("block 127, const 1, const 2, const 3, br 0, end, drop");
        value("const 1, br 0");
        value("@br 0");
        value("block 64, @br 1, end, const 1");
        none("const 1, if 127, const 2, br 0, else, const 3, br 0, end, drop");
        none("const 1, if 127, @br 0, else, const 3, br 0, end, drop");
        none("unreachable, block 127, unreachable, br 0, end, drop");
    }

    /** "br_if, with its test taken first, puts it again" */
    private static void brIfPutsItAgain() {
        none("block 127, const 1, const 0, br_if 0, end, drop");
        none("block 127, const 0, @br_if 0, end, drop");
        none("block 127, @br_if 0, end, drop");
        none("block 64, const 0, br_if 0, end");
        none("block 64, const 1, const 0, br_if 0, @end");
        none("block 64, const 1, const 0, br_if 0, drop, end");
        value("const 1, const 0, br_if 0");
        value("const 1, const 0, br_if 0, drop, @");
        value("const 0, @br_if 0");
        // In dead code nothing is taken, but the value is put.
        value("unreachable, br_if 0");
        none("block 127, unreachable, br_if 0, end, drop");
        none("block 127, unreachable, br_if 0, br_if 0, end, drop");
        none("block 127, unreachable, const 1, const 2, br_if 0, end, drop");
        none("block 127, unreachable, const 1, const 2, const 3, br_if 0, @end");
    }

    private static void loopsTakeNone() {
        none("loop 127, br 0, end, drop");
        none("loop 127, const 0, br_if 0, const 1, end, drop");
        none("loop 127, const 0, br_if 0, @end");
        none("loop 64, br 0, end");
        none("block 127, loop 64, const 1, br 1, end, const 2, end, drop");
    }

    /** "return likewise of the function" */
    private static void returnOfTheFunction() {
        none("return");
        none("const 1, return");
        value("const 1, return");
        value("@return");
        value("const 1, const 2, return");
        value("const 1, block 64, @return, end");
        value("const 1, block 64, const 2, return, end");
        value("const 1, block 64, const 2, return, end, drop, @");
        value("unreachable, return");
        none("block 127, return, end, drop");
    }

    private static void ifTakesItsTest() {
        none("const 1, if 64, end");
        none("@if 64, end");
        none("const 1, block 64, @if 64, end, end, drop");
        none("const 1, if 64, @drop, end");
        none("const 9, const 1, if 64, end, drop");
        none("unreachable, if 64, end");
    }

    /** "else can only stand in an if that has none yet" */
    private static void elseInAnIfAlone() {
        none("const 1, if 64, else, end");
        none("const 1, if 64, else, @else, end");
        none("@else");
        none("block 64, @else, end");
        none("loop 64, @else, end");
        none("const 1, if 64, block 64, @else, end, end");
        none("const 1, if 64, end, @else");
        none("const 1, if 64, unreachable, else, unreachable, @else, end");
        none("const 1, if 64, const 1, if 64, else, end, else, end");
    }

    /** "at both just the value of the block must lie above the height, if it has one, otherwise nothing" */
    private static void justTheValueAtEnd() {
        none("block 64, end");
        none("block 64, const 1, @end");
        none("block 127, const 1, end, drop");
        none("block 127, @end");
        none("block 127, const 1, const 2, @end");
        none("loop 127, const 1, end, drop");
        none("loop 64, const 1, @end");
        none("const 1, block 127, @end, drop");
        none("const 1, block 127, const 2, end, drop, drop");
        none("const 1, if 127, const 1, else, const 2, end, drop");
        none("const 1, if 127, const 1, else, @end, drop");
        none("const 1, if 127, const 1, else, const 2, const 3, @end, drop");
        value("const 1");
        value("@");
        value("const 1, const 2, @");
        none("");
        none("const 1, @");
    }

    private static void justTheValueAtElse() {
        none("const 1, if 64, else, end");
        none("const 1, if 64, const 2, @else, end");
        none("const 1, if 127, const 2, else, const 3, end, drop");
        none("const 1, if 127, @else, const 3, end, drop");
        none("const 1, if 127, const 2, const 2, @else, const 3, end, drop");
        none("const 9, const 1, if 127, @else, const 3, end, drop");
        // "behind else nothing lies above the height"
        none("const 1, if 127, const 2, else, @drop, end");
    }

    /** "(if DEAD: not more; what lacks counts as there)" */
    private static void deadEnds() {
        none("block 127, unreachable, end, drop");
        none("block 127, unreachable, const 1, end, drop");
        none("block 127, unreachable, const 1, const 2, @end");
        none("block 64, unreachable, end");
        none("block 64, unreachable, const 1, @end");
        none("const 1, if 127, unreachable, else, unreachable, end, drop");
        none("const 1, if 127, unreachable, const 1, else, unreachable, const 2, end, drop");
        none("const 1, if 127, unreachable, const 1, const 2, @else, unreachable, end, drop");
        none("const 1, if 64, unreachable, const 1, @else, end");
        value("unreachable");
        value("unreachable, const 1");
        value("unreachable, const 1, const 1, @");
        none("unreachable, const 1, @");
        value("const 1, br 0, const 2, const 3, @");
        none("return, const 1, @");
    }

    /** "behind end the value is put" */
    private static void valueBehindEnd() {
        none("block 127, const 1, end, @");
        value("block 127, const 1, end");
        value("block 127, unreachable, end");
        value("block 64, unreachable, end, @");
        value("const 1, block 127, const 2, end, add");
        value("loop 127, br 0, end");
        value("const 1, if 127, const 2, else, const 3, end");
        value("block 127, block 127, const 1, end, end");
    }

    private static void ifWithAValueHasAnElse() {
        none("const 1, if 64, end");
        none("const 1, if 127, const 2, @end, drop");
        none("const 1, if 127, unreachable, @end, drop");
        none("const 1, if 127, const 2, else, const 3, end, drop");
        none("unreachable, if 127, const 2, @end, drop");
    }

    /** "the function itself" is a block, of the height 0, with the value of its type. */
    private static void theFunctionItself() {
        value("get 0");
        none("get 0, drop");
        value("block 64, get 0, br 1, end, const 1");
        value("get 0, const 1, br_if 0");
        none("const 1, const 2, br 0");
        value("const 1, const 2, br 0");
    }

    /** "the first instruction, by functions and instructions, that is not VALID" */
    private static void theFirstOneCounts() {
        none("nop, @drop, drop, else");
        none("const 1, @add, get 9, call 9");
        none("block 127, @end, drop, drop");
        none("const 1, if 127, @add, end");
        int[] two = Bytes.module(TYPES, Bytes.section(3, Bytes.of(2, 4, 4)), Bytes.section(10, Bytes.row(
            Bytes.code(0, Bytes.asm("nop, nop, drop")), Bytes.code(0, Bytes.asm("drop")))));
        Wasmhall hall = Kit.read(two);
        KIT.due("the first function counts", hall.fault(false), 2);
    }
}
