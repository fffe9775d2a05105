import java.util.NoSuchElementException;

/**
 * "If several exceptions apply to a call, the one that is listed first is thrown; a call that throws an exception changes
 * nothing." Each call that can be refused, for each of its reasons, on halls where much stands already.
 */
public final class RefusalsTest {
    private static final Kit KIT = new Kit();
    private static final Class<?> INDEX = IndexOutOfBoundsException.class;
    private static final Class<?> STATE = IllegalStateException.class;
    private static final Class<?> ARGUMENT = IllegalArgumentException.class;
    private static final Class<?> ELEMENT = NoSuchElementException.class;
    private static final int MIN = Integer.MIN_VALUE;
    private static final int MAX = Integer.MAX_VALUE;
    private static final int[] NO_INDEX = {-1, MIN, MAX};
    private static final int[] BEYOND = {-1073741825, 1073741824, MIN, MAX};

    public static void main(String[] args) {
        Wasmhall hall = filled();
        KIT.due("the hall is as it should be", Look.at(hall), Look.at(filled()));
        texts(hall);
        programs(hall);
        meanings(hall);
        making(hall);
        modules(hall);
        bytes(hall);
        begins(hall);
        runs(hall);
        agreements(hall);
        fullHall();
        KIT.end();
    }

    /**
     * A text with a fault; two programs; three modules, 0 and 1 made, 2 read; five runs: 0 with a value, 1 given back, 2 ended
     * by DIVISION, 3 going, 4 of the read module with a word; a fault of a read(); an output; counts.
     */
    private static Wasmhall filled() {
        Wasmhall hall = new Wasmhall();
        Kit.loaded(hall, "def f x = [x, 8 / x]; def g l = case l of [] -> 0 | h : t -> h end; def h a b c d = a; def k = 7;");
        Kit.loaded(hall, "def f x y z = (x, [y, z]); def g x = fun y -> x;");
        hall.make(0, 0);
        hall.make(1, 1);
        hall.write(0);
        hall.read();
        int[] numbers = {3, 4, 0, 5, 6};
        for (int i = 0; i < 5; i++) {
            hall.begin(i == 4 ? 2 : 0, 0, numbers[i], 0, 0);
            hall.step(i, i == 3 ? 5 : 20000);
        }
        hall.giveBack(1);
        hall.mean(0, 0, 2, 0, 0);
        hall.cutBytes(100);
        hall.read();
        Kit.put(hall, "def f = 1 + yes;");
        return hall;
    }

    private static void texts(Wasmhall hall) {
        KIT.due("piece(7) would fit", hall.type(0, 0, 0, 0), 16);
        for (int which : new int[] {-1, 8, MIN, MAX}) {
            KIT.refused(hall, "piece(" + which + ")", ARGUMENT, () -> hall.piece(which));
        }
        KIT.refused(hall, "load() of a fault", STATE, hall::load);
        for (int what : new int[] {-1, 2, MIN, MAX}) {
            KIT.refused(hall, "meant(" + what + ")", ARGUMENT, () -> hall.meant(what));
        }
    }

    private static void programs(Wasmhall hall) {
        for (int wrong : new int[] {-1, 2, MIN, MAX}) {
            KIT.refused(hall, "definitions(" + wrong + ")", INDEX, () -> hall.definitions(wrong));
            KIT.refused(hall, "parameters(" + wrong + ", 0)", INDEX, () -> hall.parameters(wrong, 0));
            KIT.refused(hall, "typeOf(" + wrong + ", 0)", INDEX, () -> hall.typeOf(wrong, 0));
        }
        for (int wrong : new int[] {-1, 4, MIN, MAX}) {
            KIT.refused(hall, "parameters(0, " + wrong + ")", INDEX, () -> hall.parameters(0, wrong));
            KIT.refused(hall, "typeOf(0, " + wrong + ")", INDEX, () -> hall.typeOf(0, wrong));
        }
        KIT.refused(hall, "parameters(1, 2)", INDEX, () -> hall.parameters(1, 2));
        KIT.refused(hall, "typeOf(1, 2)", INDEX, () -> hall.typeOf(1, 2));
    }

    private static void meanings(Wasmhall hall) {
        for (int wrong : new int[] {-1, 2, MIN, MAX}) {
            KIT.refused(hall, "mean() of program " + wrong, INDEX, () -> hall.mean(wrong, 1, MAX, MAX, MAX));
        }
        for (int wrong : new int[] {-1, 4, MIN, MAX}) {
            KIT.refused(hall, "mean() of definition " + wrong, INDEX, () -> hall.mean(0, wrong, MAX, MAX, MAX));
        }
        KIT.refused(hall, "mean() of a list", STATE, () -> hall.mean(0, 1, 0, 0, 0));
        KIT.refused(hall, "mean() of a list and a number beyond", STATE, () -> hall.mean(0, 1, MAX, 0, 0));
        KIT.refused(hall, "mean() of four", STATE, () -> hall.mean(0, 2, 0, 0, 0));
        for (int n : BEYOND) {
            KIT.refused(hall, "mean() with a = " + n, ARGUMENT, () -> hall.mean(1, 0, n, 0, 0));
            KIT.refused(hall, "mean() with b = " + n, ARGUMENT, () -> hall.mean(1, 0, 0, n, 0));
            KIT.refused(hall, "mean() with c = " + n, ARGUMENT, () -> hall.mean(1, 0, 0, 0, n));
        }
    }

    private static void making(Wasmhall hall) {
        for (int wrong : new int[] {-1, 2, MIN, MAX}) {
            KIT.refused(hall, "make(" + wrong + ", 0)", INDEX, () -> hall.make(wrong, 0));
            KIT.refused(hall, "make(" + wrong + ", 2)", INDEX, () -> hall.make(wrong, 2));
            KIT.refused(hall, "make(0, " + wrong + ")", ARGUMENT, () -> hall.make(0, wrong));
        }
    }

    private static void modules(Wasmhall hall) {
        for (int wrong : new int[] {-1, 3, MIN, MAX}) {
            KIT.refused(hall, "moduleAt(" + wrong + ", 9)", INDEX, () -> hall.moduleAt(wrong, 9));
            KIT.refused(hall, "functionAt(" + wrong + ", 0, 4)", INDEX, () -> hall.functionAt(wrong, 0, 4));
            KIT.refused(hall, "opAt(" + wrong + ", 5, 0, 2)", INDEX, () -> hall.opAt(wrong, 5, 0, 2));
            KIT.refused(hall, "countOf(" + wrong + ", 256)", INDEX, () -> hall.countOf(wrong, 256));
            KIT.refused(hall, "write(" + wrong + ")", INDEX, () -> hall.write(wrong));
            KIT.refused(hall, "same(" + wrong + ", 0)", INDEX, () -> hall.same(wrong, 0));
            KIT.refused(hall, "same(0, " + wrong + ")", INDEX, () -> hall.same(0, wrong));
            KIT.refused(hall, "countedShare(" + wrong + ")", INDEX, () -> hall.countedShare(wrong));
        }
        int functions = hall.moduleAt(0, 1) + hall.moduleAt(0, 2);
        for (int wrong : new int[] {-1, functions, MIN, MAX}) {
            KIT.refused(hall, "functionAt(0, " + wrong + ", 4)", INDEX, () -> hall.functionAt(0, wrong, 4));
            KIT.refused(hall, "opAt(0, " + wrong + ", 0, 2)", INDEX, () -> hall.opAt(0, wrong, 0, 2));
        }
        for (int own = 0; own < 5; own++) {
            int which = own;
            KIT.refused(hall, "opAt() of the import " + own, INDEX, () -> hall.opAt(0, which, 0, 2));
        }
        for (int f = 5; f < functions; f++) {
            int which = f;
            int many = hall.functionAt(0, f, 3);
            KIT.due("the last instruction of " + f, hall.opAt(0, f, many - 1, 0), 11);
            for (int wrong : new int[] {-1, many, MIN, MAX}) {
                KIT.refused(hall, "opAt(0, " + f + ", " + wrong + ", 2)", INDEX, () -> hall.opAt(0, which, wrong, 2));
            }
        }
        for (int wrong : new int[] {-1, MIN, MAX}) {
            KIT.refused(hall, "moduleAt(0, " + wrong + ")", ARGUMENT, () -> hall.moduleAt(0, wrong));
            KIT.refused(hall, "functionAt(0, 0, " + wrong + ")", ARGUMENT, () -> hall.functionAt(0, 0, wrong));
            KIT.refused(hall, "opAt(0, 5, 0, " + wrong + ")", ARGUMENT, () -> hall.opAt(0, 5, 0, wrong));
            KIT.refused(hall, "countOf(0, " + wrong + ")", ARGUMENT, () -> hall.countOf(0, wrong));
        }
        KIT.refused(hall, "moduleAt(0, 9)", ARGUMENT, () -> hall.moduleAt(0, 9));
        KIT.refused(hall, "functionAt(0, 0, 4)", ARGUMENT, () -> hall.functionAt(0, 0, 4));
        KIT.refused(hall, "opAt(0, 5, 0, 2)", ARGUMENT, () -> hall.opAt(0, 5, 0, 2));
        KIT.refused(hall, "countOf(0, 256)", ARGUMENT, () -> hall.countOf(0, 256));
    }

    private static void bytes(Wasmhall hall) {
        for (int many : new int[] {0, 9, -1, MIN, MAX}) {
            KIT.refused(hall, "bytes(7, " + many + ")", ARGUMENT, () -> hall.bytes(7, many));
        }
        for (int wrong : new int[] {-1, 100, MIN, MAX}) {
            KIT.refused(hall, "setByte(" + wrong + ", 0)", INDEX, () -> hall.setByte(wrong, 0));
            KIT.refused(hall, "setByte(" + wrong + ", 256)", INDEX, () -> hall.setByte(wrong, 256));
        }
        for (int wrong : new int[] {-1, 256, MIN, MAX}) {
            KIT.refused(hall, "setByte(99, " + wrong + ")", ARGUMENT, () -> hall.setByte(99, wrong));
        }
        for (int wrong : new int[] {-1, 101, MIN, MAX}) {
            KIT.refused(hall, "cutBytes(" + wrong + ")", ARGUMENT, () -> hall.cutBytes(wrong));
        }
    }

    private static void begins(Wasmhall hall) {
        for (int wrong : new int[] {-1, 3, MIN, MAX}) {
            KIT.refused(hall, "begin(" + wrong + ", 9, MAX, 0, 0)", INDEX, () -> hall.begin(wrong, 9, MAX, 0, 0));
        }
        for (int wrong : new int[] {-1, 4, MIN, MAX}) {
            KIT.refused(hall, "begin(0, " + wrong + ", MAX, 0, 0)", INDEX, () -> hall.begin(0, wrong, MAX, 0, 0));
        }
        KIT.refused(hall, "begin() of a list", STATE, () -> hall.begin(0, 1, 0, 0, 0));
        KIT.refused(hall, "begin() of a list and a number beyond", STATE, () -> hall.begin(0, 1, MAX, 0, 0));
        KIT.refused(hall, "begin() of four", STATE, () -> hall.begin(0, 2, 0, 0, 0));
        KIT.refused(hall, "begin() of four of the read one", STATE, () -> hall.begin(2, 2, 0, 0, 0));
        for (int n : BEYOND) {
            KIT.refused(hall, "begin() with a = " + n, ARGUMENT, () -> hall.begin(1, 0, n, 0, 0));
            KIT.refused(hall, "begin() with b = " + n, ARGUMENT, () -> hall.begin(1, 0, 0, n, 0));
            KIT.refused(hall, "begin() with c = " + n, ARGUMENT, () -> hall.begin(1, 0, 0, 0, n));
            KIT.refused(hall, "begin() of the read one with a = " + n, ARGUMENT, () -> hall.begin(2, 1, n, 0, 0));
        }
        // In a read module whatever is of a word is taken.
        KIT.due("a list of the read one", hall.begin(2, 1, 0, 0, 0), 5);
        hall.dropRun(5);
    }

    private static void runs(Wasmhall hall) {
        for (int wrong : new int[] {-1, 5, MIN, MAX}) {
            KIT.refused(hall, "step(" + wrong + ", 0)", INDEX, () -> hall.step(wrong, 0));
            KIT.refused(hall, "runAt(" + wrong + ", 12)", INDEX, () -> hall.runAt(wrong, 12));
            KIT.refused(hall, "word(" + wrong + ")", INDEX, () -> hall.word(wrong));
            KIT.refused(hall, "value(" + wrong + ")", INDEX, () -> hall.value(wrong));
            KIT.refused(hall, "giveBack(" + wrong + ")", INDEX, () -> hall.giveBack(wrong));
            KIT.refused(hall, "stackAt(" + wrong + ", -1)", INDEX, () -> hall.stackAt(wrong, -1));
            KIT.refused(hall, "localAt(" + wrong + ", -1, -1)", INDEX, () -> hall.localAt(wrong, -1, -1));
            KIT.refused(hall, "memoryAt(" + wrong + ", -1)", INDEX, () -> hall.memoryAt(wrong, -1));
            KIT.refused(hall, "dropRun(" + wrong + ")", INDEX, () -> hall.dropRun(wrong));
        }
        for (int steps : new int[] {0, -1, 20001, MIN, MAX}) {
            KIT.refused(hall, "step(3, " + steps + ")", ARGUMENT, () -> hall.step(3, steps));
            KIT.refused(hall, "step(0, " + steps + ") of an ended one", ARGUMENT, () -> hall.step(0, steps));
        }
        for (int ended : new int[] {0, 1, 2, 4}) {
            KIT.refused(hall, "step(" + ended + ", 1)", STATE, () -> hall.step(ended, 1));
            KIT.refused(hall, "stackAt(" + ended + ", 9)", ELEMENT, () -> hall.stackAt(ended, 9));
            KIT.refused(hall, "localAt(" + ended + ", 1, 0)", ELEMENT, () -> hall.localAt(ended, 1, 0));
        }
        for (int what : new int[] {-1, 12, MIN, MAX}) {
            KIT.refused(hall, "runAt(0, " + what + ")", ARGUMENT, () -> hall.runAt(0, what));
        }
        KIT.refused(hall, "word() of a trap", ELEMENT, () -> hall.word(2));
        KIT.refused(hall, "word() of one that goes", ELEMENT, () -> hall.word(3));
        for (int run = 1; run < 5; run++) {
            int which = run;
            KIT.refused(hall, "value(" + run + ")", ELEMENT, () -> hall.value(which));
            KIT.refused(hall, "giveBack(" + run + ")", ELEMENT, () -> hall.giveBack(which));
        }
        for (int wrong : NO_INDEX) {
            KIT.refused(hall, "stackAt(3, " + wrong + ")", ELEMENT, () -> hall.stackAt(3, wrong));
            KIT.refused(hall, "localAt(3, " + wrong + ", 0)", ELEMENT, () -> hall.localAt(3, wrong, 0));
            KIT.refused(hall, "localAt(3, 0, " + wrong + ")", ELEMENT, () -> hall.localAt(3, 0, wrong));
            KIT.refused(hall, "memoryAt(3, " + wrong + ")", ARGUMENT, () -> hall.memoryAt(3, wrong));
        }
        KIT.refused(hall, "memoryAt(3, 1021)", ARGUMENT, () -> hall.memoryAt(3, 1021));
    }

    private static void agreements(Wasmhall hall) {
        for (int wrong : new int[] {-1, 2, MIN, MAX}) {
            KIT.refused(hall, "agree() of program " + wrong, INDEX, () -> hall.agree(wrong, 1, 2, MAX, 0, 0));
            KIT.refused(hall, "agree() of level " + wrong, ARGUMENT, () -> hall.agree(0, 0, wrong, 1, 0, 0));
            KIT.refused(hall, "agree() of a list and level " + wrong, STATE, () -> hall.agree(0, 1, wrong, 1, 0, 0));
        }
        for (int wrong : new int[] {-1, 4, MIN, MAX}) {
            KIT.refused(hall, "agree() of definition " + wrong, INDEX, () -> hall.agree(0, wrong, 2, MAX, 0, 0));
        }
        KIT.refused(hall, "agree() of a list", STATE, () -> hall.agree(0, 1, 0, MAX, 0, 0));
        KIT.refused(hall, "agree() of four", STATE, () -> hall.agree(0, 2, 0, 0, 0, 0));
        for (int n : BEYOND) {
            KIT.refused(hall, "agree() with a = " + n, ARGUMENT, () -> hall.agree(1, 0, 0, n, 0, 0));
            KIT.refused(hall, "agree() with b = " + n, ARGUMENT, () -> hall.agree(1, 0, 1, 0, n, 0));
            KIT.refused(hall, "agree() with c = " + n, ARGUMENT, () -> hall.agree(1, 0, 0, 0, 0, n));
        }
        KIT.due("numbers that do not matter", hall.agree(0, 3, 1, MAX, MIN, MAX), 1);
    }

    /** 800 bytes of text, 6 programs, 8 modules, 6 runs and 20000 BYTES. */
    private static void fullHall() {
        Wasmhall hall = new Wasmhall();
        for (int i = 0; i < 6; i++) {
            Kit.loaded(hall, "def f x = [x];");
        }
        for (int i = 0; i < 8; i++) {
            hall.make(i % 6, i % 2);
        }
        for (int i = 0; i < 6; i++) {
            hall.begin(i, 0, 5, 0, 0);
        }
        for (int i = 0; i < 2500; i++) {
            hall.bytes(i, 8);
        }
        while (hall.type(' ', 0, 0, 0) < 800) {
            hall.meant(0);
        }
        KIT.refused(hall, "type()", STATE, () -> hall.type(0, 1, 0, 0));
        KIT.refused(hall, "piece(3)", STATE, () -> hall.piece(3));
        KIT.refused(hall, "piece(8)", ARGUMENT, () -> hall.piece(8));
        KIT.refused(hall, "load()", STATE, hall::load);
        KIT.refused(hall, "make(0, 0)", STATE, () -> hall.make(0, 0));
        KIT.refused(hall, "make(0, 2)", ARGUMENT, () -> hall.make(0, 2));
        KIT.refused(hall, "make(6, 2)", INDEX, () -> hall.make(6, 2));
        KIT.refused(hall, "bytes(0, 1)", STATE, () -> hall.bytes(0, 1));
        KIT.refused(hall, "bytes(0, 0)", ARGUMENT, () -> hall.bytes(0, 0));
        KIT.refused(hall, "read()", STATE, hall::read);
        KIT.refused(hall, "begin(0, 0, 0, 0, 0)", STATE, () -> hall.begin(0, 0, 0, 0, 0));
        KIT.refused(hall, "begin(0, 0, MAX, 0, 0)", STATE, () -> hall.begin(0, 0, MAX, 0, 0));
        KIT.refused(hall, "begin(0, 1, MAX, 0, 0)", INDEX, () -> hall.begin(0, 1, MAX, 0, 0));
        KIT.refused(hall, "begin(8, 0, 0, 0, 0)", INDEX, () -> hall.begin(8, 0, 0, 0, 0));
        KIT.due("no type() at all", hall.type(0, 0, 0, 0), 800);
        KIT.due("write() in place of what was there", hall.write(0), hall.moduleAt(0, 5));
    }
}
