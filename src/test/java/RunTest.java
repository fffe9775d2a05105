import java.util.NoSuchElementException;

/** Promises 28 to 37: runs, traps, cells, and what is asked of them. */
public final class RunTest {
    private static final Kit KIT = new Kit();
    private static final int[] TYPES = Bytes.section(1, Bytes.row(Bytes.type(0, 1), Bytes.type(1, 1), Bytes.type(1, 0),
        Bytes.type(2, 1), Bytes.type(0, 0), Bytes.type(3, 1), Bytes.type(4, 1)));
    private static final int[] HOST = Bytes.section(2, Bytes.row(Bytes.imported("dup", 1), Bytes.imported("drop", 2),
        Bytes.imported("link", 3), Bytes.imported("pair", 3), Bytes.imported("room", 1)));

    public static void main(String[] args) {
        numbers();
        shifts();
        selecting();
        memory();
        growing();
        blocks();
        branchesOut();
        calls();
        tables();
        traps();
        deep();
        cells();
        freeing();
        broken();
        noRoom();
        made();
        givingBack();
        looking();
        dropping();
        beginning();
        stepping();
        KIT.end();
    }

    /** A module with the host's functions, where function 5 has a type, two locals and this body. */
    private static Wasmhall hall(int type, int[] memory, int[]... body) {
        Wasmhall hall = new Wasmhall();
        Kit.putBytes(hall, Bytes.module(TYPES, HOST, Bytes.section(3, Bytes.of(1, type)), Bytes.table(2), memory, Bytes.section(7, Bytes.row(Bytes.exported("a", 5))),
            Bytes.section(9, Bytes.row(Bytes.element(0, 5))), Bytes.section(10, Bytes.row(Bytes.code(2, body)))));
        KIT.due("read()", hall.read(), 0);
        KIT.due("fault(false)", hall.fault(false), Wasmhall.NONE);
        return hall;
    }

    private static Wasmhall run(int[]... body) {
        Wasmhall hall = hall(0, Bytes.memory(1, 8), body);
        KIT.due("begin()", hall.begin(0, 0, 0, 0, 0), 0);
        hall.step(0, 20000);
        return hall;
    }

    private static void given(String what, int word, int[]... body) {
        Wasmhall hall = run(body);
        KIT.due("the state of " + what, hall.runAt(0, 0), 1);
        KIT.due("the word of " + what, hall.word(0), word);
    }

    private static void trap(String what, int trap, int steps, int[]... body) {
        Wasmhall hall = run(body);
        KIT.due("the state of " + what, hall.runAt(0, 0), 1 + trap);
        KIT.due("the steps of " + what, hall.runAt(0, 1), steps);
    }

    private static int[] c(int number) {
        return Bytes.word(number);
    }

    private static int[] o(int... bytes) {
        return Bytes.of(bytes);
    }

    private static void two(String name, int left, int right, int due) {
        given(left + " " + name + " " + right, due, c(left), c(right), o(Kit.codeOf(name)));
    }

    private static void numbers() {
        two("eq", 3, 3, 1);
        two("eq", 3, 4, 0);
        two("ne", 3, 4, 1);
        two("ne", 4, 4, 0);
        two("lt_s", -1, 0, 1);
        two("lt_s", 0, 0, 0);
        two("lt_u", -1, 0, 0);
        two("lt_u", 0, -1, 1);
        two("gt_s", 0, -1, 1);
        two("gt_s", 0, 0, 0);
        two("le_s", 0, 0, 1);
        two("le_s", 1, 0, 0);
        two("ge_s", 0, 0, 1);
        two("ge_s", -1, 0, 0);
        two("add", 2147483647, 1, -2147483648);
        two("sub", -2147483648, 1, 2147483647);
        two("mul", 65536, 65537, 65536);
        two("div_s", -7, 2, -3);
        two("div_s", 7, -2, -3);
        two("div_s", -2147483648, 1, -2147483648);
        two("rem_s", -7, 2, -1);
        two("rem_s", 7, -2, 1);
        two("rem_s", -2147483648, -1, 0);
        two("and", 12, 10, 8);
        two("or", 12, 10, 14);
        two("xor", 12, 10, 6);
        given("eqz of 0", 1, c(0), o(69));
        given("eqz of 4", 0, c(4), o(69));
    }

    private static void shifts() {
        two("shl", 1, 31, -2147483648);
        two("shl", 1, 33, 2);
        two("shr_s", -8, 1, -4);
        two("shr_s", -8, 33, -4);
        two("shr_u", -8, 1, 2147483644);
        two("shr_u", -1, 32, -1);
    }

    private static void selecting() {
        given("select of 1", 5, c(5), c(6), c(1), o(27));
        given("select of 0", 6, c(5), c(6), c(0), o(27));
        given("drop", 5, c(5), c(6), o(26));
        given("locals are 0 at first", 0, o(32, 1));
        given("set and get", 9, c(9), o(33, 1, 32, 1));
        given("tee", 18, c(9), o(34, 1, 32, 1, 106));
    }

    private static void memory() {
        given("the lowest byte first", 0x33445566, c(3), c(0x11223344), o(54, 2, 1), c(0), c(0x66), o(54, 2, 7),
            c(3), c(0x5566 << 16 | 0x22), o(26, 26), c(0x3344 << 16 | 0x5566));
        given("load at an odd place", 0x00112233, c(0), c(0x11223344), o(54, 2, 0), c(0), o(40, 2, 1));
        given("the last word", 7, c(1020), c(7), o(54, 2, 0), c(1000), o(40, 2, 20));
        trap("load beyond", 3, 2, c(1021), o(40, 2, 0, 26), c(1));
        trap("load at -1", 3, 2, c(-1), o(40, 2, 0, 26), c(1));
        trap("a great offset", 3, 2, c(0), o(40, 2, 255, 255, 255, 255, 15, 26), c(1));
        trap("place and offset do not go round", 3, 2, c(-4), o(40, 2, 4, 26), c(1));
        trap("store beyond", 3, 3, c(1021), c(7), o(54, 2, 0), c(1));
        Wasmhall hall = run(c(1021), c(7), o(54, 2, 0), c(1));
        KIT.due("the stack stays as it was", hall.stackAt(0, 0), 7);
        KIT.due("and below", hall.stackAt(0, 1), 1021);
        KIT.due("nothing is stored", hall.memoryAt(0, 1020), 0);
        KIT.due("frames stay", hall.runAt(0, 2), 1);
        KIT.due("words on stacks stay", hall.runAt(0, 3), 2);
    }

    private static void growing() {
        given("size", 1, o(63, 0));
        given("grow puts what there was", 1, c(2), o(64, 0));
        given("size behind grow", 3, c(2), o(64, 0, 26, 63, 0));
        given("grow to the most", 8, c(7), o(64, 0, 26, 63, 0));
        given("grow beyond", -1, c(8), o(64, 0));
        given("no growth then", 1, c(8), o(64, 0, 26, 63, 0));
        given("grow by -1 is without a sign", -1, c(-1), o(64, 0));
        given("new pages are 0", 0, c(1), o(64, 0, 26), c(2044), o(40, 2, 0));
        Wasmhall hall = run(c(2), o(64, 0));
        KIT.due("runAt(0, 4)", hall.runAt(0, 4), 3);
        KIT.due("memoryAt(0, 3068)", hall.memoryAt(0, 3068), 0);
        KIT.throwing("memoryAt(0, 3069)", IllegalArgumentException.class, () -> hall.memoryAt(0, 3069));
    }

    private static void blocks() {
        given("if", 5, c(1), o(4, 127), c(5), o(5), c(6), o(11));
        given("else", 6, c(0), o(4, 127), c(5), o(5), c(6), o(11));
        given("if without else", 1, c(0), o(4, 64), c(9), o(33, 0, 11), c(1));
        given("a loop that goes round", 10, o(3, 64, 32, 0), c(1), o(106, 34, 0), c(10), o(72, 13, 0, 11, 32, 0));
        given("br out of two blocks", 7, o(2, 127, 2, 64), c(3), c(7), o(12, 1, 11), c(8), o(11));
        given("br takes the value over the rest", 7, c(1), o(2, 127), c(3), c(4), c(7), o(12, 0, 11, 34, 0, 26, 26, 32, 0));
        given("br_if that is not taken", 3, o(2, 127), c(3), c(0), o(13, 0, 26), c(3), o(11));
        given("br to an if", 4, c(1), o(4, 127), c(4), o(12, 0), o(5), c(5), o(11));
        Wasmhall hall = run(c(0), o(4, 64), c(9), o(33, 0, 11), c(1));
        KIT.due("steps of an if that is passed", hall.runAt(0, 1), 4);
        KIT.due("steps of an if with its else", run(c(1), o(4, 64, 5, 11), c(1)).runAt(0, 1), 5);
        KIT.due("steps of the else", run(c(0), o(4, 64, 5, 11), c(1)).runAt(0, 1), 5);
    }

    private static void branchesOut() {
        given("br out of the function", 7, c(1), c(7), o(12, 0));
        given("br out of the function from a block", 7, o(2, 64), c(1), c(7), o(12, 1, 11), c(9));
        given("br_if out of the function", 7, c(1), c(7), c(2), o(13, 0, 26));
        given("return", 7, o(3, 64), c(1), c(7), o(15, 11), c(9));
        KIT.due("return is the last step", run(c(7), o(15)).runAt(0, 1), 2);
        KIT.due("br is the last step", run(c(7), o(12, 0)).runAt(0, 1), 2);
        KIT.due("end is the last step", run(c(7)).runAt(0, 1), 2);
    }

    private static Wasmhall three() {
        Wasmhall hall = new Wasmhall();
        // 0 calls 1 with 7 and 8; 1 subtracts; 2 gives nothing; 3 has four parameters; 4 traps.
        Kit.putBytes(hall, Bytes.module(TYPES, Bytes.section(3, Bytes.of(5, 0, 3, 4, 6, 5)), Bytes.section(7, Bytes.row(
            Bytes.exported("a", 0), Bytes.exported("b", 1), Bytes.exported("c", 2), Bytes.exported("d", 3),
            Bytes.exported("e", 4))), Bytes.section(10, Bytes.row(Bytes.code(1, c(1), c(7), c(8), o(16, 1, 106)),
            Bytes.code(1, o(32, 0, 32, 1, 107)), Bytes.code(0), Bytes.code(0, o(32, 0)), Bytes.code(2, c(5), o(0))))));
        KIT.due("read()", hall.read(), 0);
        return hall;
    }

    private static void calls() {
        Wasmhall hall = three();
        hall.begin(0, 0, 0, 0, 0);
        KIT.due("four steps", hall.step(0, 4), 4);
        KIT.due("frames", hall.runAt(0, 2), 2);
        KIT.due("most frames", hall.runAt(0, 8), 2);
        KIT.due("words on stacks", hall.runAt(0, 3), 1);
        KIT.due("function at hand", hall.runAt(0, 9), 1);
        KIT.due("instruction to be done", hall.runAt(0, 10), 0);
        KIT.due("the first parameter", hall.localAt(0, 0, 0), 7);
        KIT.due("the second one", hall.localAt(0, 0, 1), 8);
        KIT.due("the local", hall.localAt(0, 0, 2), 0);
        KIT.due("the local of the frame ahead", hall.localAt(0, 1, 0), 0);
        KIT.throwing("local 3", NoSuchElementException.class, () -> hall.localAt(0, 0, 3));
        KIT.throwing("local -1", NoSuchElementException.class, () -> hall.localAt(0, 0, -1));
        KIT.throwing("local 1 of the frame ahead", NoSuchElementException.class, () -> hall.localAt(0, 1, 1));
        KIT.throwing("frame 2", NoSuchElementException.class, () -> hall.localAt(0, 2, 0));
        KIT.throwing("frame -1", NoSuchElementException.class, () -> hall.localAt(0, -1, 0));
        KIT.throwing("an empty stack", NoSuchElementException.class, () -> hall.stackAt(0, 0));
        hall.step(0, 2);
        KIT.due("the top", hall.stackAt(0, 0), 8);
        KIT.due("below it", hall.stackAt(0, 1), 7);
        KIT.throwing("depth 2", NoSuchElementException.class, () -> hall.stackAt(0, 2));
        KIT.throwing("depth -1", NoSuchElementException.class, () -> hall.stackAt(0, -1));
        hall.step(0, 2);
        KIT.due("back in the first frame", hall.runAt(0, 9), 0);
        KIT.due("at the instruction behind", hall.runAt(0, 10), 4);
        KIT.due("the value lies on the stack", hall.stackAt(0, 0), -1);
        KIT.due("two steps are left", hall.step(0, 20000), 2);
        KIT.due("word(0)", hall.word(0), 0);
        KIT.due("no frames", hall.runAt(0, 2), 0);
        KIT.due("no function at hand", hall.runAt(0, 9), Wasmhall.NONE);
        KIT.due("no instruction", hall.runAt(0, 10), Wasmhall.NONE);
        KIT.throwing("no local", NoSuchElementException.class, () -> hall.localAt(0, 0, 0));
        hall.begin(0, 1, 3, -4, 0);
        hall.step(1, 20000);
        KIT.due("words of numbers", hall.word(1), 7 - -7);
        hall.begin(0, 2, 0, 0, 0);
        hall.step(2, 1);
        KIT.due("a function without a value", hall.word(2), 0);
        hall.begin(0, 4, 1, 2, 3);
        KIT.due("the trap is a step", hall.step(3, 9), 2);
        KIT.due("it is UNREACHABLE", hall.runAt(3, 0), 2);
        KIT.due("frames stay", hall.runAt(3, 2), 1);
        KIT.due("locals stay", hall.localAt(3, 0, 2), 7);
        KIT.due("its stack stays", hall.stackAt(3, 0), 5);
        KIT.due("no function at hand by a trap", hall.runAt(3, 9), Wasmhall.NONE);
        KIT.throwing("word of a trap", NoSuchElementException.class, () -> hall.word(3));
    }

    private static void tables() {
        Wasmhall hall = new Wasmhall();
        // Entries: 0 the function 1 (over the function 0), 1 dup, 2 none.
        Kit.putBytes(hall, Bytes.module(TYPES, Bytes.section(2, Bytes.row(Bytes.imported("dup", 1))),
            Bytes.section(3, Bytes.of(3, 1, 1, 0)), Bytes.table(3), Bytes.section(7, Bytes.row(Bytes.exported("a", 1))),
            Bytes.section(9, Bytes.row(Bytes.element(0, 3, 0), Bytes.element(0, 2))), Bytes.section(10, Bytes.row(
            Bytes.code(0, c(9), o(32, 0), c(1), o(117, 17, 1, 0)), Bytes.code(0, o(32, 0), c(1), o(106)),
            Bytes.code(0, c(1))))));
        KIT.due("read()", hall.read(), 0);
        int[] states = {1, 1, 5, 5, 5};
        int[] words = {10, 9, 0, 0, 0};
        for (int i = 0; i < 5; i++) {
            hall.begin(0, 0, i == 4 ? -1 : i, 0, 0);
            hall.step(i, 20000);
            KIT.due("the state of entry " + i, hall.runAt(i, 0), states[i]);
            if (states[i] == 1) {
                KIT.due("the word of entry " + i, hall.word(i), words[i]);
            } else {
                KIT.due("the entry stays", hall.stackAt(i, 0), i == 4 ? -1 : i);
                KIT.due("what lies below, too", hall.stackAt(i, 1), 9);
            }
        }
        Wasmhall other = hall(0, Bytes.memory(1, 8), c(5), c(0), o(17, 1, 0));
        other.begin(0, 0, 0, 0, 0);
        other.step(0, 20000);
        KIT.due("a function of other parameters", other.runAt(0, 0), 5);
        KIT.due("its steps", other.runAt(0, 1), 3);
    }

    private static void traps() {
        trap("unreachable", 1, 1, o(0));
        trap("div_s by 0", 2, 3, c(1), c(0), o(109));
        trap("rem_s by 0", 2, 3, c(1), c(0), o(111));
        trap("the least by -1", 2, 3, c(-2147483648), c(-1), o(109));
        Wasmhall hall = run(c(4), c(0), o(111));
        KIT.due("both stay", hall.runAt(0, 3), 2);
        KIT.due("the top", hall.stackAt(0, 0), 0);
        KIT.throwing("step() behind a trap", IllegalStateException.class, () -> hall.step(0, 1));
        KIT.throwing("steps are looked at first", IllegalArgumentException.class, () -> hall.step(0, 0));
    }

    private static void deep() {
        Wasmhall hall = hall(0, Bytes.memory(1, 8), c(3), o(16, 5, 106));
        hall.begin(0, 0, 0, 0, 0);
        KIT.due("steps to the 81st frame", hall.step(0, 20000), 160);
        KIT.due("DEEP", hall.runAt(0, 0), 6);
        KIT.due("frames", hall.runAt(0, 2), 80);
        KIT.due("most frames", hall.runAt(0, 8), 80);
        KIT.due("words on all stacks", hall.runAt(0, 3), 80);
        KIT.due("a local of the oldest one", hall.localAt(0, 79, 1), 0);
        Wasmhall host = hall(0, Bytes.memory(1, 8), c(1), c(2), o(16, 2));
        host.begin(0, 0, 0, 0, 0);
        KIT.due("a call of the host is one step", host.step(0, 20000), 4);
        KIT.due("and no frame", host.runAt(0, 8), 1);
    }

    private static void cells() {
        Wasmhall hall = run(c(7), c(9), o(16, 2, 26), c(3), c(5), o(16, 3, 26), c(4), o(16, 4));
        KIT.due("the first cell is at 16, of a link", hall.memoryAt(0, 20), 8);
        KIT.due("with one holder", hall.memoryAt(0, 16), 1);
        KIT.due("its head", hall.memoryAt(0, 24), 7);
        KIT.due("its rest", hall.memoryAt(0, 28), 9);
        KIT.due("a pair", hall.memoryAt(0, 36), 9);
        KIT.due("its first field", hall.memoryAt(0, 40), 3);
        KIT.due("its second field", hall.memoryAt(0, 44), 5);
        KIT.due("a function", hall.memoryAt(0, 52), 18);
        KIT.due("its fields are 1", hall.memoryAt(0, 56) + hall.memoryAt(0, 68), 2);
        KIT.due("its place", hall.word(0), 48);
        KIT.due("cells in use", hall.runAt(0, 5), 3);
        KIT.due("holders", hall.runAt(0, 6), 3);
        KIT.due("given", hall.runAt(0, 7), 3);
        given("dup of no cell", 7, c(7), o(16, 0));
        given("drop of no cell", 1, c(7), o(16, 1), c(1));
        Wasmhall dup = run(c(1), c(1), o(16, 2, 16, 0, 16, 0));
        KIT.due("two holders more", dup.memoryAt(0, 16), 3);
        KIT.due("runAt(0, 6)", dup.runAt(0, 6), 3);
        KIT.due("dup gives the word", dup.word(0), 16);
        given("room of 2", 16, c(2), o(16, 4));
        given("room of 80", 16, c(80), o(16, 4));
        KIT.due("holders are the word that stands there", run(c(1), c(1), o(16, 2), c(-5), o(54, 2, 0), c(1))
            .runAt(0, 6), -5);
    }

    private static void freeing() {
        // Three links are given and freed: the latest of as many fields is given again first.
        Wasmhall hall = run(c(1), c(1), o(16, 2, 33, 0), c(1), c(1), o(16, 3, 33, 1), c(3), o(16, 4, 26),
            o(32, 0, 16, 1, 32, 1, 16, 1), c(2), o(16, 4), c(1000), o(108), c(1), c(1), o(16, 2, 106));
        KIT.due("32, then 16", hall.word(0), 32000 + 16);
        KIT.due("given each time", hall.runAt(0, 7), 5);
        KIT.due("in use", hall.runAt(0, 5), 3);
        // A cell that holds two others, one of which has another holder.
        Wasmhall tree = run(c(1), c(1), o(16, 2, 34, 0), c(1), c(1), o(16, 2, 16, 0, 34, 1, 16, 3, 16, 1),
            c(3), c(1), o(16, 2), c(100), o(108), c(3), c(1), o(16, 2, 106));
        // First the pair, then its first field comes to an end: that one was freed latest.
        KIT.due("16, then 48", tree.word(0), 1600 + 48);
        KIT.due("the other holder stays", tree.memoryAt(0, 32), 1);
        KIT.due("in use with it", tree.runAt(0, 5), 3);
        KIT.due("a drop that leaves one", run(c(1), c(1), o(16, 2, 16, 0, 16, 1), c(1)).runAt(0, 5), 1);
        Wasmhall less = run(c(1), c(1), o(16, 2, 34, 0), c(0), o(54, 2, 0), o(32, 0, 16, 1), c(1));
        KIT.due("holders below 0 free nothing", less.runAt(0, 5), 1);
        KIT.due("they are -1", less.runAt(0, 6), -1);
        Wasmhall self = run(c(1), c(1), o(16, 2, 34, 0, 32, 0, 54, 2, 8, 32, 0, 16, 1), c(1));
        KIT.due("a cell is in use while its fields are gone through", self.runAt(0, 0), 1);
        KIT.due("and is freed then", self.runAt(0, 5), 0);
    }

    private static void broken() {
        trap("dup of 0", 6, 2, c(0), o(16, 0));
        trap("drop of 8", 6, 2, c(8), o(16, 1), c(1));
        trap("drop of -4", 6, 2, c(-4), o(16, 1), c(1));
        trap("drop of the inside of a cell", 6, 6, c(1), c(1), o(16, 2), c(4), o(106, 16, 1), c(1));
        trap("dup of a freed one", 6, 7, c(1), c(1), o(16, 2, 34, 0, 16, 1, 32, 0, 16, 0, 26), c(1), c(1), o(26));
        trap("room of 1", 6, 2, c(1), o(16, 4));
        trap("room of 81", 6, 2, c(81), o(16, 4));
        trap("room of -1", 6, 2, c(-1), o(16, 4));
        // A pair of a link and of 8: the link loses its holder, then 8 is BROKEN.
        Wasmhall hall = run(c(1), c(1), o(16, 2), c(8), o(16, 3, 34, 0, 16, 1), c(1));
        KIT.due("BROKEN", hall.runAt(0, 0), 7);
        KIT.due("what was done ahead stays", hall.memoryAt(0, 16), 0);
        KIT.due("and of the pair", hall.memoryAt(0, 32), 0);
        KIT.due("both are in use", hall.runAt(0, 5), 2);
        KIT.due("the stack stays", hall.stackAt(0, 0), 32);
    }

    private static void noRoom() {
        // A link for each go round: 16 bytes each, from 16 on, in 8 pages of 1024.
        Wasmhall hall = run(o(3, 64), c(1), c(1), o(16, 2, 26, 12, 0, 11), c(1));
        KIT.due("MEMORY", hall.runAt(0, 0), 4);
        KIT.due("8 pages", hall.runAt(0, 4), 8);
        KIT.due("511 cells", hall.runAt(0, 5), 511);
        KIT.due("both words stay", hall.runAt(0, 3), 2);
        Wasmhall one = run(o(3, 64), c(1), c(1), o(16, 2, 26, 32, 0), c(1), o(106, 34, 0), c(63), o(72, 13, 0, 11, 63,
            0));
        KIT.due("63 cells fill a page", one.word(0), 1);
        Wasmhall more = run(o(3, 64), c(1), c(1), o(16, 2, 26, 32, 0), c(1), o(106, 34, 0), c(64), o(72, 13, 0, 11, 63,
            0));
        KIT.due("the 64th one makes it grow", more.word(0), 2);
        Wasmhall none = hall(0, Bytes.memory(0, 0), c(1), c(1), o(16, 2));
        none.begin(0, 0, 0, 0, 0);
        none.step(0, 20000);
        KIT.due("no memory at all", none.runAt(0, 0), 4);
        KIT.due("no pages", none.runAt(0, 4), 0);
        Wasmhall small = hall(0, Bytes.memory(0, 1), c(80), o(16, 4));
        small.begin(0, 0, 0, 0, 0);
        small.step(0, 20000);
        KIT.due("grown from none", small.runAt(0, 4), 1);
        Wasmhall full = hall(0, Bytes.memory(1, 1), c(80), o(16, 4), c(80), o(16, 4), c(80), o(16, 4), c(80), o(16, 4,
            26, 26, 26));
        full.begin(0, 0, 0, 0, 0);
        full.step(0, 20000);
        KIT.due("no fourth cell of 80 fields", full.runAt(0, 0), 4);
        KIT.due("three are given", full.runAt(0, 7), 3);
        KIT.due("by none", full.runAt(0, 4), 1);
    }

    private static Wasmhall loaded(int level, String text) {
        Wasmhall hall = new Wasmhall();
        Kit.loaded(hall, text);
        hall.make(0, level);
        return hall;
    }

    private static void value(String text, int definition, String due, int a, int b, int c) {
        for (int level = 0; level < 2; level++) {
            Wasmhall hall = loaded(level, text);
            hall.begin(0, definition, a, b, c);
            hall.step(0, 20000);
            KIT.due("the state of " + text, hall.runAt(0, 0), 1);
            KIT.due("value() of " + text, hall.value(0), due.length());
            KIT.due("the value of " + text, Kit.output(hall), due);
            int cells = hall.runAt(0, 5);
            KIT.due("giveBack() of " + text, hall.giveBack(0), cells);
            KIT.due("all is free again", hall.runAt(0, 5), 0);
        }
    }

    private static void made() {
        value("def f = 5;", 0, "5", 0, 0, 0);
        value("def f x y z = (x - y) * z;", 0, "-14", 1, 8, 2);
        value("def f x = [x, x + 1];", 0, "[-1073741824, -1073741823]", -1073741824, 0, 0);
        value("def f x = (x < 3, [(x, yes), (1, no)]);", 0, "(no, [(3, yes), (1, no)])", 3, 0, 0);
        value("def f x = fun y -> [x, y];", 0, "fun", 3, 0, 0);
        value("def g a b c d = [a, b, c, d]; def f n = let h = g 1 2 in [h 3 n, h n 4];", 1,
            "[[1, 2, 3, 9], [1, 2, 9, 4]]", 9, 0, 0);
        value("def m f l = case l of [] -> [] | h : t -> f h : m f t end; def u n = if n < 1 then [] else n : u (n - 1);"
            + " def f n = m (fun x -> x * n) (u n);", 2, "[16, 12, 8, 4]", 4, 0, 0);
        Wasmhall hall = loaded(0, "def f x = 1 / x; def g n = if n < 1 then 0 else 1 + g (n - 1); def h x = [x, x];");
        hall.begin(0, 0, 0, 0, 0);
        hall.step(0, 20000);
        KIT.due("DIVISION", hall.runAt(0, 0), 3);
        hall.begin(0, 1, 80, 0, 0);
        hall.step(1, 20000);
        KIT.due("DEEP", hall.runAt(1, 0), 6);
        KIT.throwing("value() of a trap", NoSuchElementException.class, () -> hall.value(1));
        KIT.throwing("giveBack() of a trap", NoSuchElementException.class, () -> hall.giveBack(1));
        hall.begin(0, 2, 4, 0, 0);
        KIT.throwing("value() of one that goes", NoSuchElementException.class, () -> hall.value(2));
        KIT.throwing("giveBack() of one that goes", NoSuchElementException.class, () -> hall.giveBack(2));
        KIT.throwing("word() of one that goes", NoSuchElementException.class, () -> hall.word(2));
        Wasmhall loop = loaded(1, "def f n a = if n < 1 then a else f (n - 1) (a + n);");
        loop.begin(0, 0, 1000, 0, 0);
        for (int i = 0; i < 3 && loop.runAt(0, 0) == 0; i++) {
            loop.step(0, 20000);
        }
        KIT.due("a loop needs one frame", loop.runAt(0, 8), 1);
        KIT.due("its word", loop.word(0), 2 * 500500 + 1);
    }

    private static void givingBack() {
        Wasmhall hall = loaded(0, "def f x = [(x, x), (x, 1)]; def g = 7;");
        hall.begin(0, 0, 4, 0, 0);
        hall.step(0, 20000);
        KIT.due("not given back", hall.runAt(0, 11), 0);
        KIT.due("four cells", hall.runAt(0, 5), 4);
        KIT.due("four holders", hall.runAt(0, 6), 4);
        int word = hall.word(0);
        KIT.due("giveBack(0)", hall.giveBack(0), 4);
        KIT.due("given back", hall.runAt(0, 11), 1);
        KIT.due("no cells", hall.runAt(0, 5), 0);
        KIT.due("four were given", hall.runAt(0, 7), 4);
        KIT.due("word(0) stays", hall.word(0), word);
        KIT.throwing("giveBack(0) again", NoSuchElementException.class, () -> hall.giveBack(0));
        KIT.throwing("value(0)", NoSuchElementException.class, () -> hall.value(0));
        hall.begin(0, 1, 0, 0, 0);
        hall.step(1, 20000);
        KIT.due("giveBack of a number", hall.giveBack(1), 0);
        KIT.throwing("giveBack(2)", IndexOutOfBoundsException.class, () -> hall.giveBack(2));
        KIT.throwing("value(2)", IndexOutOfBoundsException.class, () -> hall.value(2));
        Wasmhall read = run(c(7));
        KIT.throwing("value of a read module", NoSuchElementException.class, () -> read.value(0));
        KIT.throwing("giveBack of a read module", NoSuchElementException.class, () -> read.giveBack(0));
    }

    private static void looking() {
        Wasmhall hall = loaded(0, "def f x = [x];");
        hall.begin(0, 0, 3, 0, 0);
        int[] first = {0, 0, 1, 0, 1, 0, 0, 0, 1, 6, 0, 0};
        for (int what = 0; what < 12; what++) {
            KIT.due("runAt(0, " + what + ") at first", hall.runAt(0, what), first[what]);
        }
        hall.step(0, 2);
        int[] then = {0, 2, 1, 2, 1, 0, 0, 0, 1, 6, 2, 0};
        for (int what = 0; what < 12; what++) {
            KIT.due("runAt(0, " + what + ") behind two steps", hall.runAt(0, what), then[what]);
        }
        KIT.due("the parameter", hall.localAt(0, 0, 0), 7);
        KIT.throwing("runAt(0, 12)", IllegalArgumentException.class, () -> hall.runAt(0, 12));
        KIT.throwing("runAt(0, -1)", IllegalArgumentException.class, () -> hall.runAt(0, -1));
        KIT.throwing("runAt(1, 12)", IndexOutOfBoundsException.class, () -> hall.runAt(1, 12));
        KIT.throwing("word(1)", IndexOutOfBoundsException.class, () -> hall.word(1));
        KIT.throwing("stackAt(1, 0)", IndexOutOfBoundsException.class, () -> hall.stackAt(1, 0));
        KIT.throwing("localAt(-1, 0, 0)", IndexOutOfBoundsException.class, () -> hall.localAt(-1, 0, 0));
        KIT.throwing("memoryAt(1, 0)", IndexOutOfBoundsException.class, () -> hall.memoryAt(1, 0));
        KIT.throwing("memoryAt(0, -1)", IllegalArgumentException.class, () -> hall.memoryAt(0, -1));
        KIT.throwing("memoryAt(0, 1021)", IllegalArgumentException.class, () -> hall.memoryAt(0, 1021));
        KIT.throwing("memoryAt(0, MAX)", IllegalArgumentException.class, () -> hall.memoryAt(0, Integer.MAX_VALUE));
        KIT.due("memoryAt(0, 1020)", hall.memoryAt(0, 1020), 0);
        hall.step(0, 20000);
        KIT.due("memoryAt(0, 25)", hall.memoryAt(0, 25), 2 << 24);
    }

    private static void dropping() {
        Wasmhall hall = loaded(0, "def f x = x;");
        for (int i = 0; i < 6; i++) {
            KIT.due("begin()", hall.begin(0, 0, i, 0, 0), i);
        }
        KIT.throwing("a seventh run", IllegalStateException.class, () -> hall.begin(0, 0, 0, 0, 0));
        KIT.due("dropRun(2)", hall.dropRun(2), 5);
        KIT.due("the one behind it moves up", hall.localAt(2, 0, 0), 7);
        KIT.due("the one ahead of it stays", hall.localAt(1, 0, 0), 3);
        KIT.due("begin() has room again", hall.begin(0, 0, 9, 0, 0), 5);
        KIT.due("the new one", hall.localAt(5, 0, 0), 19);
        KIT.due("the last of the old ones", hall.localAt(4, 0, 0), 11);
        KIT.due("dropRun(5)", hall.dropRun(5), 5);
        KIT.throwing("dropRun(5) again", IndexOutOfBoundsException.class, () -> hall.dropRun(5));
        KIT.throwing("dropRun(-1)", IndexOutOfBoundsException.class, () -> hall.dropRun(-1));
        // A run begun where another one was has a memory of its own.
        Wasmhall again = loaded(0, "def f x = [x]; def g x = x;");
        again.begin(0, 0, 5, 0, 0);
        again.step(0, 20000);
        again.dropRun(0);
        again.begin(0, 1, 5, 0, 0);
        KIT.due("its memory is empty", again.memoryAt(0, 16), 0);
        KIT.due("it has no cells", again.runAt(0, 5) + again.runAt(0, 7), 0);
        KIT.due("it is not given back", again.runAt(0, 11), 0);
    }

    private static void beginning() {
        Wasmhall hall = loaded(0, "def f a b c d = a; def g l = case l of [] -> 1 | h : t -> 2 end; def h x y = x;"
            + " def k = 3;");
        KIT.throwing("four parameters", IllegalStateException.class, () -> hall.begin(0, 0, 0, 0, 0));
        KIT.throwing("not ASKED", IllegalStateException.class, () -> hall.begin(0, 1, 1073741824, 0, 0));
        KIT.throwing("a beyond", IllegalArgumentException.class, () -> hall.begin(0, 2, 1073741824, 0, 0));
        KIT.throwing("b beyond", IllegalArgumentException.class, () -> hall.begin(0, 2, 0, -1073741825, 0));
        KIT.throwing("no export", IndexOutOfBoundsException.class, () -> hall.begin(0, 4, 0, 0, 0));
        KIT.throwing("export -1", IndexOutOfBoundsException.class, () -> hall.begin(0, -1, 0, 0, 0));
        KIT.throwing("no module", IndexOutOfBoundsException.class, () -> hall.begin(1, 0, 0, 0, 0));
        KIT.due("c does not matter", hall.begin(0, 2, 1, 2, 1073741824), 0);
        KIT.due("none matters", hall.begin(0, 3, 1073741824, 1073741824, 1073741824), 1);
        Wasmhall three = three();
        KIT.throwing("four parameters of a read one", IllegalStateException.class, () -> three.begin(0, 3, 0, 0, 0));
        KIT.throwing("c beyond", IllegalArgumentException.class, () -> three.begin(0, 4, 0, 0, 1073741824));
        KIT.due("three parameters", three.begin(0, 4, 1, 2, 3), 0);
        Wasmhall imported = new Wasmhall();
        Kit.putBytes(imported, Bytes.module(TYPES, HOST, Bytes.section(7, Bytes.row(Bytes.exported("a", 0)))));
        imported.read();
        KIT.throwing("an import", IllegalStateException.class, () -> imported.begin(0, 0, 1073741824, 0, 0));
    }

    private static void stepping() {
        Wasmhall hall = loaded(0, "def f x = x;");
        hall.begin(0, 0, 5, 0, 0);
        KIT.throwing("step(1, 0)", IndexOutOfBoundsException.class, () -> hall.step(1, 0));
        KIT.throwing("step(0, 0)", IllegalArgumentException.class, () -> hall.step(0, 0));
        KIT.throwing("step(0, 20001)", IllegalArgumentException.class, () -> hall.step(0, 20001));
        KIT.due("step(0, 1)", hall.step(0, 1), 1);
        KIT.due("going", hall.runAt(0, 0), 0);
        KIT.due("step(0, 2)", hall.step(0, 2), 1);
        KIT.due("ended", hall.runAt(0, 0), 1);
        KIT.throwing("step(0, 1) behind the end", IllegalStateException.class, () -> hall.step(0, 1));
        Wasmhall loop = hall(0, Bytes.memory(1, 1), o(3, 64, 12, 0, 11), c(1));
        loop.begin(0, 0, 0, 0, 0);
        KIT.due("20000 steps", loop.step(0, 20000), 20000);
        KIT.due("and more", loop.step(0, 20000), 20000);
        KIT.due("in all", loop.runAt(0, 1), 40000);
        KIT.due("at br", loop.runAt(0, 10), 1);
    }
}
