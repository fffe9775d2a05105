import java.util.Arrays;
import java.util.NoSuchElementException;

/**
 * A hall of small functional programs: they are typed, carried out by their meaning, made into modules of
 * WebAssembly, and these are written, read, held against the rules and run.
 */
public final class Wasmhall {
    /** The absence of a number. */
    public static final int NONE = -1;

    private static final int MOST_TEXT = 800;
    private static final int MOST_BYTES = 20000;
    private static final int MOST_PROGRAMS = 6;
    private static final int MOST_MODULES = 8;
    private static final int MOST_RUNS = 6;
    private static final int MOST_STEPS = 20000;
    private static final int MOST_ASKED = 3;
    private static final int LEAST_NUMBER = -1073741824;
    private static final int GREATEST_NUMBER = 1073741823;
    /** Far above what any loop over tokens, nodes, types or instructions can need. */
    private static final int FAR = 10000000;
    /** Ten brackets with six kinds of exps in each one stay well below it. */
    private static final int MOST_DEPTH = 90;

    private static final int TOKEN_END = 0;
    private static final int TOKEN_BAD = 1;
    private static final int TOKEN_NAME = 2;
    private static final int TOKEN_NUMBER = 3;
    private static final int TOKEN_DEF = 4;
    private static final int TOKEN_LET = 5;
    private static final int TOKEN_IN = 6;
    private static final int TOKEN_IF = 7;
    private static final int TOKEN_THEN = 8;
    private static final int TOKEN_ELSE = 9;
    private static final int TOKEN_FUN = 10;
    private static final int TOKEN_CASE = 11;
    private static final int TOKEN_OF = 12;
    private static final int TOKEN_CLOSE = 13;
    private static final int TOKEN_YES = 14;
    private static final int TOKEN_NO = 15;
    private static final int TOKEN_IS = 16;
    private static final int TOKEN_STOP = 17;
    private static final int TOKEN_ARROW = 18;
    private static final int TOKEN_OPEN_ROUND = 19;
    private static final int TOKEN_CLOSE_ROUND = 20;
    private static final int TOKEN_OPEN_SQUARE = 21;
    private static final int TOKEN_CLOSE_SQUARE = 22;
    private static final int TOKEN_COMMA = 23;
    private static final int TOKEN_COLON = 24;
    private static final int TOKEN_BAR = 25;
    private static final int TOKEN_PLUS = 26;
    private static final int TOKEN_MINUS = 27;
    private static final int TOKEN_TIMES = 28;
    private static final int TOKEN_DIVIDE = 29;
    private static final int TOKEN_REST = 30;
    private static final int TOKEN_LESS = 31;
    private static final int TOKEN_AT_MOST = 32;
    private static final int TOKEN_EQUAL = 33;

    private static final int NODE_NUMBER = 0;
    private static final int NODE_TRUTH = 1;
    private static final int NODE_NAME = 2;
    private static final int NODE_LIST = 3;
    private static final int NODE_PAIR = 4;
    private static final int NODE_USE = 5;
    private static final int NODE_TERM = 6;
    private static final int NODE_SUM = 7;
    private static final int NODE_CELL = 8;
    private static final int NODE_TEST = 9;
    private static final int NODE_LET = 10;
    private static final int NODE_IF = 11;
    private static final int NODE_FUN = 12;
    private static final int NODE_CASE_LIST = 13;
    private static final int NODE_CASE_PAIR = 14;

    private static final int TYPE_NUM = 0;
    private static final int TYPE_TRUTH = 1;
    private static final int TYPE_LIST = 2;
    private static final int TYPE_PAIR = 3;
    private static final int TYPE_ARROW = 4;
    /** A variable; in stored types the first one, the next ones follow. */
    private static final int TYPE_VARIABLE = 5;

    private static final int OP_UNREACHABLE = 0;
    private static final int OP_NOP = 1;
    private static final int OP_BLOCK = 2;
    private static final int OP_LOOP = 3;
    private static final int OP_IF = 4;
    private static final int OP_ELSE = 5;
    private static final int OP_END = 11;
    private static final int OP_BR = 12;
    private static final int OP_BR_IF = 13;
    private static final int OP_RETURN = 15;
    private static final int OP_CALL = 16;
    private static final int OP_CALL_INDIRECT = 17;
    private static final int OP_DROP = 26;
    private static final int OP_SELECT = 27;
    private static final int OP_GET = 32;
    private static final int OP_SET = 33;
    private static final int OP_TEE = 34;
    private static final int OP_LOAD = 40;
    private static final int OP_STORE = 54;
    private static final int OP_SIZE = 63;
    private static final int OP_GROW = 64;
    private static final int OP_CONST = 65;
    private static final int OP_EQZ = 69;
    private static final int OP_EQ = 70;
    private static final int OP_NE = 71;
    private static final int OP_LT_S = 72;
    private static final int OP_LT_U = 73;
    private static final int OP_GT_S = 74;
    private static final int OP_LE_S = 76;
    private static final int OP_GE_S = 78;
    private static final int OP_ADD = 106;
    private static final int OP_SUB = 107;
    private static final int OP_MUL = 108;
    private static final int OP_DIV_S = 109;
    private static final int OP_REM_S = 111;
    private static final int OP_AND = 113;
    private static final int OP_OR = 114;
    private static final int OP_XOR = 115;
    private static final int OP_SHL = 116;
    private static final int OP_SHR_S = 117;
    private static final int OP_SHR_U = 118;
    private static final int WITH_VALUE = 127;
    private static final int WITHOUT_VALUE = 64;

    private static final int HOST_DUP = 0;
    private static final int HOST_DROP = 1;
    private static final int HOST_LINK = 2;
    private static final int HOST_PAIR = 3;
    private static final int HOST_ROOM = 4;
    private static final int HOST_FUNCTIONS = 5;

    private static final int STATE_GOING = 0;
    private static final int STATE_ENDED = 1;
    private static final int TRAP_UNREACHABLE = 1;
    private static final int TRAP_DIVISION = 2;
    private static final int TRAP_MEMORY = 3;
    private static final int TRAP_TABLE = 4;
    private static final int TRAP_DEEP = 5;
    private static final int TRAP_BROKEN = 6;

    private static final int MEANT_VALUE = 0;
    private static final int MEANT_DIVISION = 1;
    private static final int MEANT_BOUND = 2;

    private final Parser parser = new Parser();
    private final Tree[] programs = new Tree[MOST_PROGRAMS];
    private int programCount;
    private final Scribe written = new Scribe();
    private final Scribe meantWritten = new Scribe();
    private final Scribe givenWritten = new Scribe();
    private final Meaning meaning = new Meaning();
    private int latestBegun;
    private int latestMost;
    private final Maker maker = new Maker();
    private final Checker checker = new Checker();
    private final WasmModule[] modules = new WasmModule[MOST_MODULES];
    private int moduleCount;
    private final WasmModule spareModule = new WasmModule();
    private final Ints coded = new Ints(256);
    private final Coder coder = new Coder();
    /** A second one, so that questions leave the fault of the latest reading alone. */
    private final Coder otherCoder = new Coder();
    private final Run[] runs = new Run[MOST_RUNS];
    private int runCount;
    private final Run spareRun = new Run();

    /** Creates a hall without programs, modules and runs. */
    public Wasmhall() {
    }

    // ---- The text, programs.

    public int type(long a, long b, long c, long d) throws IllegalStateException {
        if (parser.length() + signsOf(a) + signsOf(b) + signsOf(c) + signsOf(d) > MOST_TEXT) {
            throw new IllegalStateException("the text would be too long");
        }
        putSigns(a);
        putSigns(b);
        putSigns(c);
        putSigns(d);
        return parser.length();
    }

    private static int signsOf(long eight) {
        int count = 0;
        for (int shift = 56; shift >= 0; shift -= 8) {
            if (((eight >>> shift) & 255) != 0) {
                count++;
            }
        }
        return count;
    }

    private void putSigns(long eight) {
        for (int shift = 56; shift >= 0; shift -= 8) {
            int sign = (int) ((eight >>> shift) & 255);
            if (sign != 0) {
                parser.put(sign);
            }
        }
    }

    public int piece(int which) throws IllegalArgumentException, IllegalStateException {
        if (which < 0 || which > 7) {
            throw new IllegalArgumentException("no such piece");
        }
        String piece = pieceText(which);
        if (parser.length() + piece.length() > MOST_TEXT) {
            throw new IllegalStateException("the text would be too long");
        }
        for (int i = 0; i < piece.length(); i++) {
            parser.put(piece.charAt(i));
        }
        return parser.length();
    }

    private static String pieceText(int which) {
        switch (which) {
            case 0:
                return "def len l = case l of [] -> 0 | h : t -> 1 + len t end;";
            case 1:
                return "def map f l = case l of [] -> [] | h : t -> f h : map f t end;";
            case 2:
                return "def sum l a = case l of [] -> a | h : t -> sum t (a + h) end;";
            case 3:
                return "def upto n = if n < 1 then [] else n : upto (n - 1);";
            case 4:
                return "def swap p = case p of (x, y) -> (y, x) end; def twice f x = f (f x);";
            case 5:
                return "def main n = sum (map (fun x -> x * x + n) (upto n)) 0;";
            case 6:
                return "def add a b = a + b; def adds = [add 1, add 2, fun x -> x];";
            default:
                return "def half n = let q = n / 2 in (q, n - 2 * q); def bad n = 10 / (n - n);";
        }
    }

    public int clearText() {
        int before = parser.length();
        parser.clear();
        return before;
    }

    public int faultKind() {
        parser.examine();
        return parser.faultKindFound();
    }

    public int faultPlace() {
        parser.examine();
        return parser.faultPlaceFound();
    }

    public int load() throws IllegalStateException {
        parser.examine();
        if (parser.faultKindFound() != 0 || programCount >= MOST_PROGRAMS || programCount >= programs.length) {
            throw new IllegalStateException("a fault in the text, or no room for a program");
        }
        Tree tree = parser.takeTree();
        meaning.plan(tree);
        programs[programCount] = tree;
        programCount++;
        return programCount - 1;
    }

    public int definitions(int program) throws IndexOutOfBoundsException {
        return programOf(program).definitionCount();
    }

    public int parameters(int program, int definition) throws IndexOutOfBoundsException {
        Tree tree = programOf(program);
        needDefinition(tree, definition);
        return tree.parametersOf(definition);
    }

    public int typeOf(int program, int definition) throws IndexOutOfBoundsException {
        Tree tree = programOf(program);
        needDefinition(tree, definition);
        written.writeType(tree, definition);
        return written.length();
    }

    public int output(int index) {
        return index >= 0 && index < written.length() ? written.sign(index) : NONE;
    }

    private Tree programOf(int program) {
        Tree tree = program >= 0 && program < programCount && program < programs.length ? programs[program] : null;
        if (tree == null) {
            throw new IndexOutOfBoundsException("no such program");
        }
        return tree;
    }

    private static void needDefinition(Tree tree, int definition) {
        if (definition < 0 || definition >= tree.definitionCount()) {
            throw new IndexOutOfBoundsException("no such definition");
        }
    }

    private static void needAsked(Tree tree, int definition) {
        if (!tree.canBeAsked(definition)) {
            throw new IllegalStateException("the definition cannot be asked");
        }
    }

    private static void needNumbers(int many, int a, int b, int c) {
        if (many > 0 && beyondNumbers(a) || many > 1 && beyondNumbers(b) || many > 2 && beyondNumbers(c)) {
            throw new IllegalArgumentException("beyond the numbers");
        }
    }

    private static boolean beyondNumbers(int number) {
        return number < LEAST_NUMBER || number > GREATEST_NUMBER;
    }

    // ---- The meaning.

    public int mean(int program, int definition, int a, int b, int c)
            throws IndexOutOfBoundsException, IllegalStateException, IllegalArgumentException {
        Tree tree = programOf(program);
        needDefinition(tree, definition);
        needAsked(tree, definition);
        needNumbers(tree.parametersOf(definition), a, b, c);
        int how = meaning.workOut(tree, definition, a, b, c);
        latestBegun = meaning.begunFunctions();
        latestMost = meaning.mostOpen();
        if (how == MEANT_VALUE) {
            written.writeMeant(tree, definition, meaning);
        }
        return how;
    }

    public int meant(int what) throws IllegalArgumentException {
        if (what < 0 || what > 1) {
            throw new IllegalArgumentException("no such question");
        }
        return what == 0 ? latestBegun : latestMost;
    }

    // ---- Making, modules.

    public int make(int program, int level)
            throws IndexOutOfBoundsException, IllegalArgumentException, IllegalStateException {
        Tree tree = programOf(program);
        needLevel(level);
        needModuleRoom();
        WasmModule module = freeModule();
        maker.build(tree, level, module);
        checker.firstInvalid(module);
        moduleCount++;
        return moduleCount - 1;
    }

    private static void needLevel(int level) {
        if (level < 0 || level > 1) {
            throw new IllegalArgumentException("no such level");
        }
    }

    private void needModuleRoom() {
        if (moduleCount >= MOST_MODULES) {
            throw new IllegalStateException("no room for a module");
        }
    }

    /** The one behind those there are; it is kept and used again when it has been dropped. */
    private WasmModule freeModule() {
        if (moduleCount < 0 || moduleCount >= modules.length) {
            return spareModule;
        }
        WasmModule module = modules[moduleCount];
        if (module == null) {
            module = new WasmModule();
            modules[moduleCount] = module;
        }
        return module;
    }

    private WasmModule moduleOf(int module) {
        WasmModule found = module >= 0 && module < moduleCount && module < modules.length ? modules[module] : null;
        if (found == null) {
            throw new IndexOutOfBoundsException("no such module");
        }
        return found;
    }

    public int moduleAt(int module, int what) throws IndexOutOfBoundsException, IllegalArgumentException {
        WasmModule found = moduleOf(module);
        if (what < 0 || what > 8) {
            throw new IllegalArgumentException("no such question");
        }
        switch (what) {
            case 0:
                return found.types.size;
            case 1:
                return found.importCount();
            case 2:
                return found.ownCount();
            case 3:
                return found.tableEntries();
            case 4:
                return found.exportFunction.size;
            case 5:
                otherCoder.code(found);
                return otherCoder.codedBytes().size;
            case 6:
                return found.isMade() ? 1 : 0;
            case 7:
                return found.leastPages();
            default:
                return found.mostPages();
        }
    }

    public int functionAt(int module, int function, int what)
            throws IndexOutOfBoundsException, IllegalArgumentException {
        WasmModule found = moduleOf(module);
        if (function < 0 || function >= found.importCount() + found.ownCount()) {
            throw new IndexOutOfBoundsException("no such function");
        }
        if (what < 0 || what > 3) {
            throw new IllegalArgumentException("no such question");
        }
        int own = function - found.importCount();
        switch (what) {
            case 0:
                return found.typeNumber(function);
            case 1:
                return found.parametersOf(function);
            case 2:
                return own < 0 ? 0 : found.locals.get(own);
            default:
                return own < 0 ? 0 : found.instructionsOf(own);
        }
    }

    public int opAt(int module, int function, int instruction, int what)
            throws IndexOutOfBoundsException, IllegalArgumentException {
        WasmModule found = moduleOf(module);
        int own = function < 0 ? NONE : function - found.importCount();
        if (own < 0 || own >= found.ownCount() || instruction < 0 || instruction >= found.instructionsOf(own)) {
            throw new IndexOutOfBoundsException("no such instruction");
        }
        if (what < 0 || what > 1) {
            throw new IllegalArgumentException("no such question");
        }
        int place = found.starts.get(own) + instruction;
        return what == 0 ? found.op.get(place) : found.argument.get(place);
    }

    public int countOf(int module, int code) throws IndexOutOfBoundsException, IllegalArgumentException {
        WasmModule found = moduleOf(module);
        if (code < 0 || code > 255) {
            throw new IllegalArgumentException("no byte");
        }
        int count = 0;
        for (int i = 0; i < found.op.size; i++) {
            if (found.op.get(i) == code) {
                count++;
            }
        }
        return count;
    }

    // ---- Bytes.

    public int bytes(long eight, int many) throws IllegalArgumentException, IllegalStateException {
        if (many < 1 || many > 8) {
            throw new IllegalArgumentException("one to eight bytes");
        }
        if (coded.size + many > MOST_BYTES) {
            throw new IllegalStateException("too many bytes");
        }
        for (int shift = 8 * (many - 1); shift >= 0; shift -= 8) {
            coded.add((int) ((eight >>> shift) & 255));
        }
        return coded.size;
    }

    public int write(int module) throws IndexOutOfBoundsException, IllegalStateException {
        WasmModule found = moduleOf(module);
        otherCoder.code(found);
        if (otherCoder.codedBytes().size > MOST_BYTES) {
            throw new IllegalStateException("too many bytes");
        }
        coded.clear();
        coded.addAll(otherCoder.codedBytes());
        return coded.size;
    }

    public int byteAt(int index) {
        return index >= 0 && index < coded.size ? coded.get(index) : NONE;
    }

    public int setByte(int index, int value) throws IndexOutOfBoundsException, IllegalArgumentException {
        if (index < 0 || index >= coded.size) {
            throw new IndexOutOfBoundsException("no such byte");
        }
        if (value < 0 || value > 255) {
            throw new IllegalArgumentException("no byte");
        }
        int before = coded.get(index);
        coded.set(index, value);
        return before;
    }

    public int cutBytes(int many) throws IllegalArgumentException {
        int before = coded.size;
        if (many < 0 || many > before) {
            throw new IllegalArgumentException("not so many bytes");
        }
        coded.cut(many);
        return before;
    }

    public int read() throws IllegalStateException {
        needModuleRoom();
        WasmModule module = freeModule();
        coder.decode(coded, module);
        if (coder.faultKindFound() == 0) {
            coder.noteInvalid(checker.firstInvalid(module));
        }
        if (coder.faultKindFound() != 0) {
            return NONE;
        }
        moduleCount++;
        return moduleCount - 1;
    }

    public int fault(boolean isKind) {
        return isKind ? coder.faultKindFound() : coder.faultPlaceFound();
    }

    public boolean same(int one, int other) throws IndexOutOfBoundsException {
        WasmModule first = moduleOf(one);
        WasmModule second = moduleOf(other);
        return first.isLike(second);
    }

    public int clearModules() {
        int before = moduleCount;
        moduleCount = 0;
        runCount = 0;
        return before;
    }

    // ---- Runs.

    public int begin(int module, int export, int a, int b, int c)
            throws IndexOutOfBoundsException, IllegalStateException, IllegalArgumentException {
        WasmModule found = moduleOf(module);
        if (export < 0 || export >= found.exportFunction.size) {
            throw new IndexOutOfBoundsException("no such export");
        }
        int function = found.exportFunction.get(export);
        int many = found.parametersOf(function);
        if (many > MOST_ASKED || runCount >= MOST_RUNS || !found.canBeAsked(export)
                || function < found.importCount()) {
            throw new IllegalStateException("it cannot be run");
        }
        needNumbers(many, a, b, c);
        freeRun().start(found, export, a, b, c);
        runCount++;
        return runCount - 1;
    }

    private Run freeRun() {
        if (runCount < 0 || runCount >= runs.length) {
            return spareRun;
        }
        Run run = runs[runCount];
        if (run == null) {
            run = new Run();
            runs[runCount] = run;
        }
        return run;
    }

    private Run runOf(int run) {
        Run found = run >= 0 && run < runCount && run < runs.length ? runs[run] : null;
        if (found == null) {
            throw new IndexOutOfBoundsException("no such run");
        }
        return found;
    }

    public int step(int run, int steps)
            throws IndexOutOfBoundsException, IllegalArgumentException, IllegalStateException {
        Run found = runOf(run);
        if (steps < 1 || steps > MOST_STEPS) {
            throw new IllegalArgumentException("one step to 20000");
        }
        if (found.state() != STATE_GOING) {
            throw new IllegalStateException("the run has ended");
        }
        return found.advance(steps);
    }

    public int runAt(int run, int what) throws IndexOutOfBoundsException, IllegalArgumentException {
        Run found = runOf(run);
        if (what < 0 || what > 11) {
            throw new IllegalArgumentException("no such question");
        }
        return what >= 4 && what <= 7 ? found.host().told(what) : found.told(what);
    }

    public int word(int run) throws IndexOutOfBoundsException, NoSuchElementException {
        Run found = runOf(run);
        if (found.state() != STATE_ENDED) {
            throw new NoSuchElementException("no word was given");
        }
        return found.given();
    }

    public int value(int run) throws IndexOutOfBoundsException, NoSuchElementException {
        Run found = runOf(run);
        needHeldValue(found);
        written.writeGiven(found);
        return written.length();
    }

    public int giveBack(int run) throws IndexOutOfBoundsException, NoSuchElementException {
        Run found = runOf(run);
        needHeldValue(found);
        return found.takeBack();
    }

    private static void needHeldValue(Run run) {
        if (!run.holdsValue()) {
            throw new NoSuchElementException("no value is held");
        }
    }

    public int stackAt(int run, int depth) throws IndexOutOfBoundsException, NoSuchElementException {
        Run found = runOf(run);
        if (depth < 0 || depth >= found.newestStack()) {
            throw new NoSuchElementException("no such word");
        }
        return found.stackWord(depth);
    }

    public int localAt(int run, int frame, int local) throws IndexOutOfBoundsException, NoSuchElementException {
        Run found = runOf(run);
        if (frame < 0 || frame >= found.frameCount() || local < 0 || local >= found.localCount(frame)) {
            throw new NoSuchElementException("no such local");
        }
        return found.localWord(frame, local);
    }

    public int memoryAt(int run, int place) throws IndexOutOfBoundsException, IllegalArgumentException {
        Run found = runOf(run);
        if (!found.host().covers(place)) {
            throw new IllegalArgumentException("beyond the memory");
        }
        return found.host().wordAt(place);
    }

    public int dropRun(int run) throws IndexOutOfBoundsException {
        Run dropped = runOf(run);
        for (int i = run; i + 1 < runCount && i + 1 < runs.length; i++) {
            runs[i] = runs[i + 1];
        }
        runCount--;
        if (runCount >= 0 && runCount < runs.length) {
            runs[runCount] = dropped;
        }
        return runCount;
    }

    // ---- Second ways.

    public int agree(int program, int definition, int level, int a, int b, int c)
            throws IndexOutOfBoundsException, IllegalStateException, IllegalArgumentException {
        Tree tree = programOf(program);
        needDefinition(tree, definition);
        needAsked(tree, definition);
        needLevel(level);
        needNumbers(tree.parametersOf(definition), a, b, c);
        int how = meaning.workOut(tree, definition, a, b, c);
        if (how == MEANT_BOUND) {
            return 2;
        }
        maker.build(tree, level, spareModule);
        checker.firstInvalid(spareModule);
        spareRun.start(spareModule, definition, a, b, c);
        spareRun.advance(MOST_STEPS);
        int state = spareRun.state();
        if (state == STATE_GOING || state == STATE_ENDED + TRAP_MEMORY || state == STATE_ENDED + TRAP_DEEP) {
            return 2;
        }
        if (how == MEANT_DIVISION || state != STATE_ENDED) {
            return how == MEANT_DIVISION && state == STATE_ENDED + TRAP_DIVISION ? 1 : 0;
        }
        meantWritten.writeMeant(tree, definition, meaning);
        givenWritten.writeGiven(spareRun);
        return meantWritten.isLike(givenWritten) ? 1 : 0;
    }

    public int errors() {
        int count = 0;
        for (int i = 0; i < moduleCount; i++) {
            WasmModule module = moduleOf(i);
            boolean stands = checker.firstInvalid(module) == NONE;
            otherCoder.code(module);
            otherCoder.decode(otherCoder.codedBytes(), spareModule);
            if (!stands || otherCoder.faultKindFound() != 0 || !module.isLike(spareModule)) {
                count++;
            }
        }
        for (int i = 0; i < runCount; i++) {
            if (!runOf(i).standsTheTheorem()) {
                count++;
            }
        }
        return count;
    }

    public int checksum() {
        int sum = 17;
        for (int i = 0; i < written.length(); i++) {
            sum = 31 * sum + written.sign(i);
        }
        return sum;
    }

    public double meanSteps() {
        if (runCount <= 0) {
            return 0.0;
        }
        long sum = 0;
        for (int i = 0; i < runCount; i++) {
            sum += runOf(i).stepCount();
        }
        return (double) sum / (double) runCount;
    }

    public float countedShare(int module) throws IndexOutOfBoundsException {
        WasmModule found = moduleOf(module);
        int all = found.op.size;
        if (all <= 0) {
            return 0.0f;
        }
        int counted = 0;
        for (int i = 0; i < all; i++) {
            int called = found.op.get(i) == OP_CALL ? found.hostOf(found.argument.get(i)) : NONE;
            if (called == HOST_DUP || called == HOST_DROP) {
                counted++;
            }
        }
        return (float) counted / (float) all;
    }

    /** A row of numbers that grows; what is asked of it beside its ends is 0, and put there is let fall. */
    private static final class Ints {
        private static final int MOST_ROOM = 1 << 23;
        private int[] row;
        /** How many numbers there are. */
        private int size;

        Ints(int room) {
            row = new int[room > 0 ? room : 1];
        }

        int get(int i) {
            return i >= 0 && i < size && i < row.length ? row[i] : 0;
        }

        void set(int i, int number) {
            if (i >= 0 && i < size && i < row.length) {
                row[i] = number;
            }
        }

        void change(int i, int difference) {
            if (i >= 0 && i < size && i < row.length) {
                row[i] += difference;
            }
        }

        void add(int number) {
            if (size >= row.length && row.length < MOST_ROOM) {
                row = Arrays.copyOf(row, 2 * row.length);
            }
            if (size >= 0 && size < row.length) {
                row[size] = number;
                size++;
            }
        }

        void addAll(Ints other) {
            for (int i = 0; i < other.size; i++) {
                add(other.get(i));
            }
        }

        int top(int depth) {
            int i = size - 1 - depth;
            return i >= 0 && i < size && i < row.length ? row[i] : 0;
        }

        int pop() {
            if (size <= 0 || size > row.length) {
                return 0;
            }
            size--;
            return row[size];
        }

        void cut(int many) {
            if (many >= 0 && many < size) {
                size = many;
            }
        }

        void clear() {
            size = 0;
        }

        /** Makes it so long at least, by zeros. */
        void reach(int many) {
            int room = row.length;
            for (int i = 0; i < 30 && room < many && room < MOST_ROOM; i++) {
                room *= 2;
            }
            if (room > row.length) {
                row = Arrays.copyOf(row, room);
            }
            while (size < many && size < row.length) {
                row[size] = 0;
                size++;
            }
        }

        /** Makes it so many zeros. */
        void zeros(int many) {
            clear();
            reach(many);
        }

        boolean isLike(Ints other) {
            boolean like = size == other.size;
            for (int i = 0; like && i < size; i++) {
                like = get(i) == other.get(i);
            }
            return like;
        }
    }

    /**
     * A program: its tokens, the nodes of its exps, its definitions with their types, and the plan of its
     * meaning. A binder is the token of the name that it binds.
     */
    private static final class Tree {
        private static final int NOT_BOUND = -1;
        private final Ints kind = new Ints(64);
        private final Ints place = new Ints(64);
        private final Ints number = new Ints(64);
        private final Ints bound = new Ints(64);
        private final Ints nodeOfToken = new Ints(64);
        private final Ints sort = new Ints(64);
        private final Ints token = new Ints(64);
        private final Ints first = new Ints(64);
        private final Ints last = new Ints(64);
        private final Ints child = new Ints(64);
        private final Ints next = new Ints(64);
        private final Ints sign = new Ints(64);
        private final Ints amount = new Ints(64);
        private final Ints definitionToken = new Ints(12);
        private final Ints definitionParameters = new Ints(12);
        private final Ints definitionBody = new Ints(12);
        private final Ints typeStart = new Ints(12);
        private final Ints types = new Ints(64);
        private final Ints plan = new Ints(128);
        private final Ints planned = new Ints(32);

        void clear() {
            clearShape();
            typeStart.clear();
            types.clear();
            plan.clear();
            planned.clear();
        }

        private void clearShape() {
            kind.clear();
            place.clear();
            number.clear();
            bound.clear();
            nodeOfToken.clear();
            sort.clear();
            token.clear();
            first.clear();
            last.clear();
            child.clear();
            next.clear();
            sign.clear();
            amount.clear();
            definitionToken.clear();
            definitionParameters.clear();
            definitionBody.clear();
        }

        /** Takes tokens, nodes and definitions of another one, to change them. */
        void copyShape(Tree other) {
            clearShape();
            kind.addAll(other.kind);
            place.addAll(other.place);
            number.addAll(other.number);
            bound.addAll(other.bound);
            nodeOfToken.addAll(other.nodeOfToken);
            sort.addAll(other.sort);
            token.addAll(other.token);
            first.addAll(other.first);
            last.addAll(other.last);
            child.addAll(other.child);
            next.addAll(other.next);
            sign.addAll(other.sign);
            amount.addAll(other.amount);
            definitionToken.addAll(other.definitionToken);
            definitionParameters.addAll(other.definitionParameters);
            definitionBody.addAll(other.definitionBody);
        }

        void addToken(int itsKind, int itsPlace, int itsNumber) {
            kind.add(itsKind);
            place.add(itsPlace);
            number.add(itsNumber);
            bound.add(NOT_BOUND);
            nodeOfToken.add(NONE);
        }

        int addNode(int itsSort, int itsToken, int itsFirst, int itsAmount) {
            sort.add(itsSort);
            token.add(itsToken);
            first.add(itsFirst);
            last.add(itsToken);
            child.add(NONE);
            next.add(NONE);
            sign.add(0);
            amount.add(itsAmount);
            nodeOfToken.set(itsToken, sort.size - 1);
            return sort.size - 1;
        }

        /** Puts a part behind the one before it (or as the first one), with the sign that stands ahead of it. */
        int addPart(int node, int before, int part, int itsSign) {
            sign.set(part, itsSign);
            if (before == NONE) {
                child.set(node, part);
            } else {
                next.set(before, part);
            }
            return part;
        }

        /** The part of a node with this number, or NONE. */
        int part(int node, int which) {
            int found = child.get(node);
            for (int i = 0; i < which && found != NONE; i++) {
                found = next.get(found);
            }
            return found;
        }

        int partCount(int node) {
            int count = 0;
            for (int p = child.get(node); p != NONE && count < sort.size; p = next.get(p)) {
                count++;
            }
            return count;
        }

        /** The definition that an atom names, or NONE. */
        int namedDefinition(int node) {
            return node != NONE && sort.get(node) == NODE_NAME ? definitionOfAtom(token.get(node)) : NONE;
        }

        int definitionOfAtom(int atom) {
            int binder = bound.get(atom);
            return binder < NOT_BOUND ? NOT_BOUND - 1 - binder : NONE;
        }

        void bindToDefinition(int atom, int definition) {
            bound.set(atom, NOT_BOUND - 1 - definition);
        }

        boolean isBoundAtom(int atom) {
            return bound.get(atom) > NOT_BOUND;
        }

        int placeOfNode(int node) {
            return place.get(first.get(node));
        }

        int definitionCount() {
            return definitionToken.size;
        }

        int parametersOf(int definition) {
            return definitionParameters.get(definition);
        }

        /** The first token behind a definition. */
        int endOfDefinition(int definition) {
            return definition + 1 < definitionCount() ? definitionToken.get(definition + 1) : kind.size;
        }

        /** The first place in the stored types behind the one that begins at a place. */
        int typeEnd(int begin) {
            int lacking = 1;
            int at = begin;
            for (; at < types.size && lacking > 0; at++) {
                int what = types.get(at);
                if (what == TYPE_PAIR || what == TYPE_ARROW) {
                    lacking++;
                } else if (what != TYPE_LIST) {
                    lacking--;
                }
            }
            return at;
        }

        /** Where the type begins that a definition gives when it has all its parameters. */
        int resultType(int definition) {
            int at = typeStart.get(definition);
            for (int i = 0; i < parametersOf(definition); i++) {
                at = typeEnd(at + 1);
            }
            return at;
        }

        boolean canBeAsked(int definition) {
            boolean asked = parametersOf(definition) <= MOST_ASKED;
            int at = typeStart.get(definition);
            for (int i = 0; asked && i < parametersOf(definition); i++) {
                int parameter = types.get(at + 1);
                asked = parameter == TYPE_NUM || parameter >= TYPE_VARIABLE;
                at = typeEnd(at + 1);
            }
            return asked;
        }
    }

    /** Holds the text, and finds its tokens, its program, and its faults. */
    private static final class Parser {
        private static final int MOST_DEFINITIONS = 12;
        private static final int MOST_NAMES = 4;
        private static final int MOST_OPEN = 10;
        private static final int MOST_SIGNS = 6;
        private static final int MOST_DIGITS = 9;
        private static final int FIRST_WORD = TOKEN_DEF;
        private final Ints text = new Ints(256);
        private final Ints words = new Ints(16);
        private final Ints scope = new Ints(64);
        private final Typer typer = new Typer();
        private Tree tree = new Tree();
        private int at;
        private int open;
        private boolean examined;
        private int faultKind;
        private int faultPlace = NONE;
        /** The first name that is bound twice or by nothing; it counts only if the grammar holds. */
        private int namePlace = NONE;

        Parser() {
            words.add(packed("def"));
            words.add(packed("let"));
            words.add(packed("in"));
            words.add(packed("if"));
            words.add(packed("then"));
            words.add(packed("else"));
            words.add(packed("fun"));
            words.add(packed("case"));
            words.add(packed("of"));
            words.add(packed("end"));
            words.add(packed("yes"));
            words.add(packed("no"));
        }

        private static int packed(String name) {
            int pack = 0;
            for (int i = 0; i < name.length(); i++) {
                pack = packedWith(pack, name.charAt(i));
            }
            return pack;
        }

        /** Six signs of 36 fit into 32 bits, so that each name is a number of its own. */
        private static int packedWith(int pack, int sign) {
            return pack * 37 + (isDigit(sign) ? sign - '0' + 27 : sign - 'a' + 1);
        }

        int length() {
            return text.size;
        }

        void put(int sign) {
            text.add(sign);
            examined = false;
        }

        void clear() {
            text.clear();
            examined = false;
        }

        int faultKindFound() {
            return faultKind;
        }

        int faultPlaceFound() {
            return faultPlace;
        }

        /** Gives the program away, and begins with an empty text. */
        Tree takeTree() {
            Tree taken = tree;
            tree = new Tree();
            clear();
            return taken;
        }

        void examine() {
            if (examined) {
                return;
            }
            examined = true;
            faultKind = 0;
            faultPlace = NONE;
            namePlace = NONE;
            tree.clear();
            scan();
            at = 0;
            open = 0;
            for (int i = 0; i < MOST_DEFINITIONS && faultKind == 0 && here() == TOKEN_DEF; i++) {
                definition(i);
            }
            if (faultKind == 0 && here() != TOKEN_END) {
                refuse();
            }
            if (faultKind == 0 && namePlace != NONE) {
                faultKind = 2;
                faultPlace = namePlace;
            }
            typer.take(tree);
            for (int d = 0; d < tree.definitionCount() && faultKind == 0; d++) {
                faultPlace = typer.misfitOf(d);
                faultKind = faultPlace == NONE ? 0 : 3;
            }
        }

        private void scan() {
            int i = 0;
            while (i < text.size) {
                int sign = text.get(i);
                if (sign == 32 || sign == 10) {
                    i++;
                } else if (isLetter(sign)) {
                    i = Math.max(i + 1, scanName(i));
                } else if (isDigit(sign)) {
                    i = Math.max(i + 1, scanNumber(i));
                } else {
                    i = Math.max(i + 1, scanSign(i));
                }
            }
            tree.addToken(TOKEN_END, text.size, 0);
        }

        private static boolean isLetter(int sign) {
            return sign >= 'a' && sign <= 'z';
        }

        private static boolean isDigit(int sign) {
            return sign >= '0' && sign <= '9';
        }

        private int scanName(int begin) {
            int pack = 0;
            int i = begin;
            for (; i < text.size && (isLetter(text.get(i)) || isDigit(text.get(i))); i++) {
                pack = packedWith(pack, text.get(i));
            }
            int kind = TOKEN_NAME;
            for (int w = 0; w < words.size; w++) {
                if (words.get(w) == pack) {
                    kind = FIRST_WORD + w;
                }
            }
            tree.addToken(i - begin > MOST_SIGNS ? TOKEN_BAD : kind, begin, pack);
            return i;
        }

        private int scanNumber(int begin) {
            int number = 0;
            int i = begin;
            for (; i < text.size && isDigit(text.get(i)); i++) {
                number = 10 * number + text.get(i) - '0';
            }
            tree.addToken(i - begin > MOST_DIGITS ? TOKEN_BAD : TOKEN_NUMBER, begin, number);
            return i;
        }

        private int scanSign(int begin) {
            int kind = signKind(text.get(begin));
            int longKind = longSignKind(text.get(begin), text.get(begin + 1));
            tree.addToken(longKind != TOKEN_BAD ? longKind : kind, begin, 0);
            return longKind != TOKEN_BAD ? begin + 2 : begin + 1;
        }

        private static int longSignKind(int sign, int behind) {
            if (sign == '-' && behind == '>') {
                return TOKEN_ARROW;
            }
            if (sign == '<' && behind == '=') {
                return TOKEN_AT_MOST;
            }
            return sign == '=' && behind == '=' ? TOKEN_EQUAL : TOKEN_BAD;
        }

        private static int signKind(int sign) {
            switch (sign) {
                case '=':
                    return TOKEN_IS;
                case ';':
                    return TOKEN_STOP;
                case '(':
                    return TOKEN_OPEN_ROUND;
                case ')':
                    return TOKEN_CLOSE_ROUND;
                case '[':
                    return TOKEN_OPEN_SQUARE;
                case ']':
                    return TOKEN_CLOSE_SQUARE;
                case ',':
                    return TOKEN_COMMA;
                case ':':
                    return TOKEN_COLON;
                case '|':
                    return TOKEN_BAR;
                case '+':
                    return TOKEN_PLUS;
                case '-':
                    return TOKEN_MINUS;
                case '*':
                    return TOKEN_TIMES;
                case '/':
                    return TOKEN_DIVIDE;
                case '%':
                    return TOKEN_REST;
                case '<':
                    return TOKEN_LESS;
                default:
                    return TOKEN_BAD;
            }
        }

        private int here() {
            return tree.kind.get(at);
        }

        /** The token at hand cannot stand here. */
        private int refuse() {
            if (faultKind == 0) {
                faultKind = 1;
                faultPlace = tree.place.get(at);
            }
            return NONE;
        }

        private boolean expect(int kind) {
            if (faultKind == 0 && here() == kind) {
                at++;
                return true;
            }
            refuse();
            return false;
        }

        private void noteName(int nameToken) {
            if (namePlace == NONE) {
                namePlace = tree.place.get(nameToken);
            }
        }

        private boolean isSameName(int one, int other) {
            return tree.number.get(one) == tree.number.get(other);
        }

        private int definitionNamed(int nameToken) {
            for (int d = 0; d < tree.definitionCount(); d++) {
                if (isSameName(tree.definitionToken.get(d), nameToken)) {
                    return d;
                }
            }
            return NONE;
        }

        private void definition(int which) {
            at++;
            int name = at;
            if (!expect(TOKEN_NAME)) {
                return;
            }
            if (definitionNamed(name) != NONE) {
                noteName(name);
            }
            scope.clear();
            int many = names();
            tree.definitionToken.add(name);
            tree.definitionParameters.add(many);
            tree.definitionBody.add(NONE);
            if (expect(TOKEN_IS)) {
                tree.definitionBody.set(which, expression());
                expect(TOKEN_STOP);
            }
        }

        /** Binds the names that stand here, four at most; a fifth one is then what cannot stand. */
        private int names() {
            int begin = at;
            for (int i = 0; i < MOST_NAMES && here() == TOKEN_NAME; i++) {
                bind(at, begin);
                at++;
            }
            return at - begin;
        }

        /** Binds a name; those from begin on are its fellows, of whom none may be the same. */
        private void bind(int nameToken, int begin) {
            boolean second = false;
            for (int i = begin; i < nameToken; i++) {
                second = second || tree.kind.get(i) == TOKEN_NAME
                        && tree.number.get(i) == tree.number.get(nameToken);
            }
            if (second) {
                noteName(nameToken);
            }
            scope.add(nameToken);
        }

        private void finish(int node) {
            tree.last.set(node, at - 1);
        }

        private int expression() {
            int kind = here();
            if (kind != TOKEN_LET && kind != TOKEN_IF && kind != TOKEN_FUN && kind != TOKEN_CASE) {
                return test();
            }
            if (open >= MOST_OPEN) {
                return refuse();
            }
            open++;
            int begin = at;
            at++;
            int bindings = scope.size;
            int node = kind == TOKEN_LET ? let(begin) : kind == TOKEN_IF ? condition(begin)
                    : kind == TOKEN_FUN ? function(begin) : choice(begin);
            scope.cut(bindings);
            finish(node);
            open--;
            return node;
        }

        private int let(int begin) {
            int name = at;
            if (!expect(TOKEN_NAME) || !expect(TOKEN_IS)) {
                return NONE;
            }
            int node = tree.addNode(NODE_LET, name, begin, 0);
            int before = tree.addPart(node, NONE, expression(), 0);
            if (!expect(TOKEN_IN)) {
                return NONE;
            }
            scope.add(name);
            tree.addPart(node, before, expression(), 0);
            return node;
        }

        private int condition(int begin) {
            int node = tree.addNode(NODE_IF, begin, begin, 0);
            int before = tree.addPart(node, NONE, expression(), 0);
            if (!expect(TOKEN_THEN)) {
                return NONE;
            }
            before = tree.addPart(node, before, expression(), 0);
            if (!expect(TOKEN_ELSE)) {
                return NONE;
            }
            tree.addPart(node, before, expression(), 0);
            return node;
        }

        private int function(int begin) {
            if (here() != TOKEN_NAME) {
                return refuse();
            }
            int many = names();
            if (!expect(TOKEN_ARROW)) {
                return NONE;
            }
            int node = tree.addNode(NODE_FUN, begin, begin, many);
            tree.addPart(node, NONE, expression(), 0);
            return node;
        }

        private int choice(int begin) {
            int looked = expression();
            if (!expect(TOKEN_OF)) {
                return NONE;
            }
            int node = NONE;
            if (here() == TOKEN_OPEN_SQUARE) {
                node = listBranches(begin, looked);
            } else if (here() == TOKEN_OPEN_ROUND) {
                node = pairBranch(begin, looked);
            } else {
                refuse();
            }
            return expect(TOKEN_CLOSE) ? node : NONE;
        }

        private int listBranches(int begin, int looked) {
            at++;
            if (!expect(TOKEN_CLOSE_SQUARE) || !expect(TOKEN_ARROW)) {
                return NONE;
            }
            int empty = expression();
            int head = at + 1;
            if (!expect(TOKEN_BAR) || !twoNames(TOKEN_COLON) || !expect(TOKEN_ARROW)) {
                return NONE;
            }
            int node = tree.addNode(NODE_CASE_LIST, begin, begin, head);
            int before = tree.addPart(node, NONE, looked, 0);
            before = tree.addPart(node, before, empty, 0);
            tree.addPart(node, before, expression(), 0);
            return node;
        }

        private int pairBranch(int begin, int looked) {
            at++;
            int left = at;
            if (!twoNames(TOKEN_COMMA) || !expect(TOKEN_CLOSE_ROUND) || !expect(TOKEN_ARROW)) {
                return NONE;
            }
            int node = tree.addNode(NODE_CASE_PAIR, begin, begin, left);
            int before = tree.addPart(node, NONE, looked, 0);
            tree.addPart(node, before, expression(), 0);
            return node;
        }

        private boolean twoNames(int between) {
            int begin = at;
            if (!expect(TOKEN_NAME) || !expect(between) || !expect(TOKEN_NAME)) {
                return false;
            }
            bind(begin, begin);
            bind(begin + 2, begin);
            return true;
        }

        private int test() {
            int begin = at;
            int left = chain(NODE_CELL);
            int kind = here();
            if (faultKind != 0 || kind != TOKEN_LESS && kind != TOKEN_AT_MOST && kind != TOKEN_EQUAL) {
                return left;
            }
            int node = tree.addNode(NODE_TEST, at, begin, 0);
            at++;
            int before = tree.addPart(node, NONE, left, 0);
            tree.addPart(node, before, chain(NODE_CELL), kind);
            finish(node);
            return node;
        }

        /** A cell, sum or term: its parts with the signs between them, or the only part itself. */
        private int chain(int sort) {
            int begin = at;
            int part = sort == NODE_TERM ? use() : chain(sort - 1);
            if (faultKind != 0 || !standsBetween(sort, here())) {
                return part;
            }
            int node = tree.addNode(sort, at, begin, 0);
            int before = tree.addPart(node, NONE, part, 0);
            for (int i = 0; i < MOST_TEXT && faultKind == 0 && standsBetween(sort, here()); i++) {
                int sign = here();
                at++;
                part = sort == NODE_TERM ? use() : chain(sort - 1);
                before = tree.addPart(node, before, part, sign);
            }
            finish(node);
            return node;
        }

        private static boolean standsBetween(int sort, int kind) {
            switch (sort) {
                case NODE_CELL:
                    return kind == TOKEN_COLON;
                case NODE_SUM:
                    return kind == TOKEN_PLUS || kind == TOKEN_MINUS;
                default:
                    return kind == TOKEN_TIMES || kind == TOKEN_DIVIDE || kind == TOKEN_REST;
            }
        }

        private int use() {
            int begin = at;
            int part = atom();
            if (faultKind != 0 || !beginsAtom(here())) {
                return part;
            }
            int node = tree.addNode(NODE_USE, NONE, begin, 0);
            int before = tree.addPart(node, NONE, part, 0);
            for (int i = 0; i < MOST_TEXT && faultKind == 0 && beginsAtom(here()); i++) {
                before = tree.addPart(node, before, atom(), 0);
            }
            finish(node);
            return node;
        }

        private static boolean beginsAtom(int kind) {
            return kind == TOKEN_NAME || kind == TOKEN_NUMBER || kind == TOKEN_YES || kind == TOKEN_NO
                    || kind == TOKEN_OPEN_ROUND || kind == TOKEN_OPEN_SQUARE;
        }

        private int atom() {
            int kind = here();
            boolean opens = kind == TOKEN_OPEN_ROUND || kind == TOKEN_OPEN_SQUARE;
            if (!beginsAtom(kind) || opens && open >= MOST_OPEN) {
                return refuse();
            }
            int begin = at;
            at++;
            if (opens) {
                open++;
                int node = kind == TOKEN_OPEN_ROUND ? bracket(begin) : list(begin);
                open--;
                return node;
            }
            if (kind == TOKEN_NUMBER) {
                return tree.addNode(NODE_NUMBER, begin, begin, tree.number.get(begin));
            }
            if (kind == TOKEN_NAME) {
                resolve(begin);
                return tree.addNode(NODE_NAME, begin, begin, 0);
            }
            return tree.addNode(NODE_TRUTH, begin, begin, kind == TOKEN_YES ? 1 : 0);
        }

        private void resolve(int name) {
            for (int i = scope.size - 1; i >= 0; i--) {
                if (isSameName(scope.get(i), name)) {
                    tree.bound.set(name, scope.get(i));
                    return;
                }
            }
            int definition = definitionNamed(name);
            if (definition == NONE) {
                noteName(name);
            } else {
                tree.bindToDefinition(name, definition);
            }
        }

        private int list(int begin) {
            int node = tree.addNode(NODE_LIST, begin, begin, 0);
            int before = NONE;
            if (here() != TOKEN_CLOSE_SQUARE) {
                before = tree.addPart(node, before, expression(), 0);
            }
            for (int i = 0; i < MOST_TEXT && faultKind == 0 && before != NONE && here() == TOKEN_COMMA; i++) {
                at++;
                before = tree.addPart(node, before, expression(), 0);
            }
            expect(TOKEN_CLOSE_SQUARE);
            finish(node);
            return node;
        }

        /** A pair, or an exp in brackets: that is the exp itself, but it begins and ends with them. */
        private int bracket(int begin) {
            int inner = expression();
            int node = inner;
            if (faultKind == 0 && here() == TOKEN_COMMA) {
                at++;
                node = tree.addNode(NODE_PAIR, begin, begin, 0);
                int before = tree.addPart(node, NONE, inner, 0);
                tree.addPart(node, before, expression(), 0);
            }
            expect(TOKEN_CLOSE_ROUND);
            tree.first.set(node, begin);
            finish(node);
            return node;
        }
    }

    /** Finds the types of a program, definition by definition. */
    private static final class Typer {
        private static final int MOST_PARTS = 100;
        private static final int TYPE_LINK = 6;
        private static final int NUM = 0;
        private static final int TRUTH = 1;
        private final Ints kind = new Ints(256);
        private final Ints left = new Ints(256);
        private final Ints right = new Ints(256);
        private final Ints mark = new Ints(256);
        private final Ints typeOfNode = new Ints(64);
        private final Ints typeOfBinder = new Ints(64);
        private final Ints work = new Ints(64);
        private final Ints row = new Ints(64);
        private final Ints letters = new Ints(64);
        private Tree tree;
        private int own;
        private int ownType;
        private int latestMark;
        private int misfit = NONE;

        void take(Tree whole) {
            tree = whole;
            misfit = NONE;
            typeOfNode.zeros(tree.sort.size);
            typeOfBinder.zeros(tree.kind.size);
        }

        private int newType(int itsKind, int itsLeft, int itsRight) {
            kind.add(itsKind);
            left.add(itsLeft);
            right.add(itsRight);
            mark.add(0);
            return kind.size - 1;
        }

        private int newVariable() {
            return newType(TYPE_VARIABLE, 0, 0);
        }

        private void clearTypes() {
            kind.clear();
            left.clear();
            right.clear();
            mark.clear();
            latestMark = 0;
            newType(TYPE_NUM, 0, 0);
            newType(TYPE_TRUTH, 0, 0);
        }

        /** Finds the type of a definition and stores it in the tree; answers the place of a fault, or NONE. */
        int misfitOf(int which) {
            clearTypes();
            int many = tree.parametersOf(which);
            int name = tree.definitionToken.get(which);
            for (int i = 1; i <= many; i++) {
                typeOfBinder.set(name + i, newVariable());
            }
            int result = newVariable();
            own = which;
            ownType = functionOf(name + 1, many, result);
            int body = tree.definitionBody.get(which);
            int found = find(body, 0);
            if (found == NONE) {
                return misfit;
            }
            if (!unify(found, result) || parts(ownType) > MOST_PARTS) {
                refuse(body);
            } else {
                store(ownType);
            }
            return misfit;
        }

        /** The type of a function whose names are so many tokens from the first one on. */
        private int functionOf(int firstName, int many, int result) {
            int whole = result;
            for (int i = many - 1; i >= 0; i--) {
                whole = newType(TYPE_ARROW, typeOfBinder.get(firstName + i), whole);
            }
            return whole;
        }

        private int refuse(int node) {
            if (misfit == NONE) {
                misfit = tree.placeOfNode(node);
            }
            return NONE;
        }

        /** The type of an exp; NONE with a fault. */
        private int find(int node, int depth) {
            if (depth > MOST_DEPTH) {
                return refuse(node);
            }
            int type = findBySort(node, depth + 1);
            if (type == NONE) {
                return NONE;
            }
            if (parts(type) > MOST_PARTS) {
                return refuse(node);
            }
            typeOfNode.set(node, type);
            return type;
        }

        private int findBySort(int node, int depth) {
            switch (tree.sort.get(node)) {
                case NODE_NUMBER:
                    return NUM;
                case NODE_TRUTH:
                    return TRUTH;
                case NODE_NAME:
                    return findName(tree.token.get(node));
                case NODE_LIST:
                    return findList(node, depth);
                case NODE_PAIR:
                    return findPair(node, depth);
                case NODE_USE:
                    return findUse(node, depth);
                case NODE_TERM:
                case NODE_SUM:
                    return findNumbers(node, depth) ? NUM : NONE;
                case NODE_TEST:
                    return findNumbers(node, depth) ? TRUTH : NONE;
                case NODE_CELL:
                    return findCells(node, depth);
                case NODE_LET:
                    return findLet(node, depth);
                case NODE_IF:
                    return findIf(node, depth);
                case NODE_FUN:
                    return findFun(node, depth);
                default:
                    return findCase(node, depth);
            }
        }

        private int findName(int atom) {
            int definition = tree.definitionOfAtom(atom);
            if (definition == NONE) {
                return typeOfBinder.get(tree.bound.get(atom));
            }
            return definition == own ? ownType : renewed(definition);
        }

        /** The type of an earlier definition with new variables; read from its end on, so that parts come first. */
        private int renewed(int definition) {
            int begin = tree.typeStart.get(definition);
            letters.zeros(MOST_PARTS);
            work.clear();
            for (int i = tree.typeEnd(begin) - 1; i >= begin; i--) {
                int what = tree.types.get(i);
                if (what >= TYPE_VARIABLE) {
                    int letter = what - TYPE_VARIABLE;
                    if (letters.get(letter) == 0) {
                        letters.set(letter, newType(TYPE_VARIABLE, 0, 0));
                    }
                    work.add(letters.get(letter));
                } else if (what == TYPE_NUM || what == TYPE_TRUTH) {
                    work.add(what == TYPE_NUM ? NUM : TRUTH);
                } else {
                    int itsLeft = work.pop();
                    int itsRight = what == TYPE_LIST ? 0 : work.pop();
                    work.add(newType(what, itsLeft, itsRight));
                }
            }
            return work.pop();
        }

        private int findList(int node, int depth) {
            int inner = newVariable();
            for (int p = tree.part(node, 0), i = 0; p != NONE && i < MOST_TEXT; p = tree.next.get(p), i++) {
                int type = find(p, depth);
                if (type == NONE) {
                    return NONE;
                }
                if (!unify(type, inner)) {
                    return refuse(p);
                }
            }
            return newType(TYPE_LIST, inner, 0);
        }

        private int findPair(int node, int depth) {
            int one = find(tree.part(node, 0), depth);
            int other = one == NONE ? NONE : find(tree.part(node, 1), depth);
            return other == NONE ? NONE : newType(TYPE_PAIR, one, other);
        }

        private int findUse(int node, int depth) {
            int p = tree.part(node, 0);
            int type = find(p, depth);
            p = tree.next.get(p);
            for (int i = 0; type != NONE && p != NONE && i < MOST_TEXT; i++) {
                int given = find(p, depth);
                if (given == NONE) {
                    return NONE;
                }
                int result = newVariable();
                if (!unify(type, newType(TYPE_ARROW, given, result))) {
                    return refuse(p);
                }
                type = result;
                p = tree.next.get(p);
            }
            return type;
        }

        private boolean findNumbers(int node, int depth) {
            for (int p = tree.part(node, 0), i = 0; p != NONE && i < MOST_TEXT; p = tree.next.get(p), i++) {
                int type = find(p, depth);
                if (type == NONE) {
                    return false;
                }
                if (!unify(type, NUM)) {
                    refuse(p);
                    return false;
                }
            }
            return true;
        }

        /** Finds all parts; then each row behind a colon, from the last one on, is a list of the part ahead. */
        private int findCells(int node, int depth) {
            for (int p = tree.part(node, 0), i = 0; p != NONE && i < MOST_TEXT; p = tree.next.get(p), i++) {
                if (find(p, depth) == NONE) {
                    return NONE;
                }
            }
            row.clear();
            for (int p = tree.part(node, 0), i = 0; p != NONE && i < MOST_TEXT; p = tree.next.get(p), i++) {
                row.add(p);
            }
            int behind = row.pop();
            int type = typeOfNode.get(behind);
            for (int i = 0; i < MOST_TEXT && row.size > 0; i++) {
                int ahead = row.pop();
                if (!unify(type, newType(TYPE_LIST, typeOfNode.get(ahead), 0))) {
                    return refuse(behind);
                }
                if (parts(type) > MOST_PARTS) {
                    return refuse(ahead);
                }
                behind = ahead;
            }
            return type;
        }

        private int findLet(int node, int depth) {
            int type = find(tree.part(node, 0), depth);
            if (type == NONE) {
                return NONE;
            }
            typeOfBinder.set(tree.token.get(node), type);
            return find(tree.part(node, 1), depth);
        }

        private int findIf(int node, int depth) {
            int test = tree.part(node, 0);
            int type = find(test, depth);
            if (type == NONE) {
                return NONE;
            }
            if (!unify(type, TRUTH)) {
                return refuse(test);
            }
            return findBoth(tree.part(node, 1), tree.part(node, 2), depth);
        }

        private int findBoth(int ahead, int behind, int depth) {
            int one = find(ahead, depth);
            int other = one == NONE ? NONE : find(behind, depth);
            if (other == NONE) {
                return NONE;
            }
            return unify(other, one) ? one : refuse(behind);
        }

        private int findFun(int node, int depth) {
            int firstName = tree.token.get(node) + 1;
            int many = tree.amount.get(node);
            for (int i = 0; i < many; i++) {
                typeOfBinder.set(firstName + i, newVariable());
            }
            int result = find(tree.part(node, 0), depth);
            return result == NONE ? NONE : functionOf(firstName, many, result);
        }

        private int findCase(int node, int depth) {
            int looked = tree.part(node, 0);
            int type = find(looked, depth);
            if (type == NONE) {
                return NONE;
            }
            boolean isList = tree.sort.get(node) == NODE_CASE_LIST;
            int one = newVariable();
            int other = isList ? newType(TYPE_LIST, one, 0) : newVariable();
            if (!unify(type, isList ? other : newType(TYPE_PAIR, one, other))) {
                return refuse(looked);
            }
            int firstName = tree.amount.get(node);
            typeOfBinder.set(firstName, one);
            typeOfBinder.set(firstName + 2, other);
            if (isList) {
                return findBoth(tree.part(node, 1), tree.part(node, 2), depth);
            }
            return find(tree.part(node, 1), depth);
        }

        private int root(int type) {
            int found = type;
            for (int i = 0; i < kind.size && kind.get(found) == TYPE_LINK; i++) {
                found = left.get(found);
            }
            return found;
        }

        /** Makes two types the same. Whether a type would stand within itself is looked at behind all that. */
        private boolean unify(int one, int other) {
            boolean grown = false;
            work.clear();
            work.add(one);
            work.add(other);
            for (int i = 0; i < FAR && work.size > 0; i++) {
                int a = root(work.pop());
                int b = root(work.pop());
                if (a == b) {
                    continue;
                }
                int kindA = kind.get(a);
                int kindB = kind.get(b);
                if (kindA == TYPE_VARIABLE || kindB == TYPE_VARIABLE) {
                    grown = grown || isMade(kindA) || isMade(kindB);
                    link(kindA == TYPE_VARIABLE ? a : b, kindA == TYPE_VARIABLE ? b : a);
                } else if (kindA != kindB) {
                    return false;
                } else {
                    unifyParts(a, b, kindA);
                }
            }
            return !grown || isFinite(one);
        }

        private static boolean isMade(int itsKind) {
            return itsKind == TYPE_LIST || itsKind == TYPE_PAIR || itsKind == TYPE_ARROW;
        }

        private void link(int from, int to) {
            kind.set(from, TYPE_LINK);
            left.set(from, to);
        }

        private void unifyParts(int a, int b, int itsKind) {
            if (itsKind != TYPE_LIST) {
                work.add(right.get(a));
                work.add(right.get(b));
            }
            work.add(left.get(a));
            work.add(left.get(b));
            kind.set(a, TYPE_LINK);
            left.set(a, b);
        }

        /** Goes down from a type; one that is met again while its own parts are gone through has no end. */
        private boolean isFinite(int type) {
            int begun = latestMark + 1;
            int done = latestMark + 2;
            latestMark += 2;
            work.clear();
            work.add(type);
            for (int i = 0; i < FAR && work.size > 0; i++) {
                int entry = work.pop();
                if (entry < 0) {
                    mark.set(-1 - entry, done);
                    continue;
                }
                int at = root(entry);
                int itsKind = kind.get(at);
                if (!isMade(itsKind) || mark.get(at) == done) {
                    continue;
                }
                if (mark.get(at) == begun) {
                    return false;
                }
                mark.set(at, begun);
                work.add(-1 - at);
                work.add(left.get(at));
                if (itsKind != TYPE_LIST) {
                    work.add(right.get(at));
                }
            }
            return true;
        }

        /** The parts of a type, counted as far as one beyond the most that there may be. */
        private int parts(int type) {
            int count = 0;
            work.clear();
            work.add(type);
            for (int i = 0; i <= MOST_PARTS && work.size > 0; i++) {
                int at = root(work.pop());
                count++;
                addParts(at);
            }
            return count;
        }

        /** Puts the parts of a type on the work, the left one on top. */
        private void addParts(int at) {
            int itsKind = kind.get(at);
            if (itsKind == TYPE_PAIR || itsKind == TYPE_ARROW) {
                work.add(right.get(at));
            }
            if (isMade(itsKind)) {
                work.add(left.get(at));
            }
        }

        /** Writes a type behind the stored ones: each sort ahead of its parts, variables by when they come. */
        private void store(int type) {
            tree.typeStart.add(tree.types.size);
            letters.clear();
            work.clear();
            work.add(type);
            for (int i = 0; i <= MOST_PARTS && work.size > 0; i++) {
                int at = root(work.pop());
                int itsKind = kind.get(at);
                tree.types.add(itsKind == TYPE_VARIABLE ? TYPE_VARIABLE + letterOf(at) : itsKind);
                addParts(at);
            }
        }

        private int letterOf(int variable) {
            for (int i = 0; i < letters.size; i++) {
                if (letters.get(i) == variable) {
                    return i;
                }
            }
            letters.add(variable);
            return letters.size - 1;
        }
    }

    /** Writes types and values as texts. */
    private static final class Scribe {
        private static final int MOST_SIGNS = 2000;
        private static final int ITEM_VALUE = 0;
        private static final int ITEM_REST = 1;
        private static final int ITEM_COMMA = 2;
        private static final int ITEM_CLOSE = 3;
        private static final int ITEM_FIRST = 4;
        /** In the work on types: what is below 0 is no place of a type, but one of these. */
        private static final int CLOSE_ROUND = -1;
        private static final int CLOSE_SQUARE = -2;
        private static final int COMMA = -3;
        private static final int ARROW = -4;
        private final Ints signs = new Ints(64);
        private final Ints work = new Ints(32);
        private Tree tree;
        /** The value's cells lie in one of these two, the other one is null. */
        private Meaning meaning;
        private Host host;

        int length() {
            return signs.size;
        }

        int sign(int index) {
            return signs.get(index);
        }

        boolean isLike(Scribe other) {
            return signs.isLike(other.signs);
        }

        private void put(int sign) {
            if (signs.size < MOST_SIGNS) {
                signs.add(sign);
            }
        }

        private void put(String text) {
            for (int i = 0; i < text.length(); i++) {
                put(text.charAt(i));
            }
        }

        private void putNumber(int number) {
            long rest = number < 0 ? -(long) number : number;
            if (number < 0) {
                put('-');
            }
            long unit = 1;
            for (int i = 0; i < 10 && unit * 10 <= rest; i++) {
                unit *= 10;
            }
            for (int i = 0; i < 11 && unit > 0; i++) {
                put((int) ('0' + rest / unit % 10));
                unit /= 10;
            }
        }

        void writeType(Tree whole, int definition) {
            tree = whole;
            signs.clear();
            work.clear();
            work.add(tree.typeStart.get(definition));
            for (int i = 0; i < FAR && work.size > 0; i++) {
                int item = work.pop();
                if (item < 0) {
                    putMark(item);
                } else {
                    putSort(item);
                }
            }
        }

        private void putMark(int item) {
            switch (item) {
                case CLOSE_ROUND:
                    put(')');
                    break;
                case CLOSE_SQUARE:
                    put(']');
                    break;
                case COMMA:
                    put(", ");
                    break;
                default:
                    put(" -> ");
                    break;
            }
        }

        /** Puts what stands ahead in the type at a place, and lays its parts on the work, the last one first. */
        private void putSort(int at) {
            int what = tree.types.get(at);
            if (what == TYPE_NUM || what == TYPE_TRUTH) {
                put(what == TYPE_NUM ? "num" : "truth");
            } else if (what >= TYPE_VARIABLE) {
                putLetter(what - TYPE_VARIABLE);
            } else if (what == TYPE_LIST) {
                put('[');
                work.add(CLOSE_SQUARE);
                work.add(at + 1);
            } else if (what == TYPE_PAIR) {
                put('(');
                work.add(CLOSE_ROUND);
                work.add(tree.typeEnd(at + 1));
                work.add(COMMA);
                work.add(at + 1);
            } else {
                putArrow(at);
            }
        }

        private void putArrow(int at) {
            work.add(tree.typeEnd(at + 1));
            work.add(ARROW);
            if (tree.types.get(at + 1) == TYPE_ARROW) {
                put('(');
                work.add(CLOSE_ROUND);
            }
            work.add(at + 1);
        }

        private void putLetter(int letter) {
            put('a' + letter % 26);
            if (letter >= 26) {
                putNumber(letter / 26);
            }
        }

        /** Writes the value that the latest working out of a definition has given. */
        void writeMeant(Tree whole, int definition, Meaning worked) {
            meaning = worked;
            host = null;
            writeValue(whole, definition, worked.result());
        }

        /** Writes the value that a run of a made module has given. */
        void writeGiven(Run run) {
            Tree whole = run.madeOf();
            signs.clear();
            if (whole != null) {
                meaning = null;
                host = run.host();
                writeValue(whole, run.export(), run.given());
            }
        }

        private void writeValue(Tree whole, int definition, int value) {
            tree = whole;
            signs.clear();
            work.clear();
            lay(ITEM_VALUE, value, tree.resultType(definition));
            for (int i = 0; i < FAR && work.size > 0 && signs.size < MOST_SIGNS; i++) {
                int at = work.pop();
                int itsValue = work.pop();
                int item = work.pop();
                if (item == ITEM_VALUE) {
                    putValue(itsValue, at);
                } else if (item == ITEM_REST || item == ITEM_FIRST) {
                    putRest(itsValue, at, item == ITEM_FIRST);
                } else {
                    put(item == ITEM_COMMA ? ", " : ")");
                }
            }
        }

        private void lay(int item, int value, int at) {
            work.add(item);
            work.add(value);
            work.add(at);
        }

        private void putValue(int value, int at) {
            int what = tree.types.get(at);
            if (what == TYPE_TRUTH) {
                put(isYes(value) ? "yes" : "no");
            } else if (what == TYPE_LIST) {
                put('[');
                lay(ITEM_FIRST, value, at);
            } else if (what == TYPE_PAIR) {
                put('(');
                lay(ITEM_CLOSE, 0, 0);
                lay(ITEM_VALUE, field(value, 1), tree.typeEnd(at + 1));
                lay(ITEM_COMMA, 0, 0);
                lay(ITEM_VALUE, field(value, 0), at + 1);
            } else if (what == TYPE_ARROW) {
                put("fun");
            } else {
                putNumber(numberOf(value));
            }
        }

        private void putRest(int value, int at, boolean isFirst) {
            if (isEmpty(value)) {
                put(']');
                return;
            }
            if (!isFirst) {
                put(", ");
            }
            lay(ITEM_REST, field(value, 1), at);
            lay(ITEM_VALUE, field(value, 0), at + 1);
        }

        private boolean isYes(int value) {
            return host == null ? value == Meaning.YES : value == Run.YES;
        }

        private boolean isEmpty(int value) {
            return host == null ? value == Meaning.EMPTY : !host.isUsed(value);
        }

        private int numberOf(int value) {
            return host == null ? value : value >> 1;
        }

        private int field(int value, int which) {
            if (host != null) {
                return host.field(value, which);
            }
            return meaning == null ? 0 : meaning.part(value, which);
        }
    }

    /** Carries programs out by their meaning: each body is planned as a row of small deeds, and these are done. */
    private static final class Meaning {
        private static final int YES = 1;
        private static final int NO = 0;
        private static final int EMPTY = 0;
        private static final int MOST_BEGUN = 1000;
        private static final int MOST_OPEN = 50;
        private static final int GOING = -1;
        private static final int DO_PUSH = 0;
        private static final int DO_NAME = 1;
        private static final int DO_DEFINITION = 2;
        private static final int DO_APPLY = 3;
        private static final int DO_LINK = 4;
        private static final int DO_PAIR = 5;
        private static final int DO_FUNCTION = 6;
        private static final int DO_JUMP = 7;
        private static final int DO_JUMP_ON_NO = 8;
        private static final int DO_JUMP_ON_LINK = 9;
        private static final int DO_BIND = 10;
        private static final int DO_BIND_BOTH = 11;
        private static final int DO_UNBIND = 12;
        private static final int DO_RETURN = 13;
        /** The deed of an operation is this and the token of its sign. */
        private static final int DO_OPERATION = 100;
        private final Ints scope = new Ints(64);
        private final Ints heap = new Ints(256);
        private final Ints stack = new Ints(64);
        private final Ints frames = new Ints(2 * MOST_OPEN);
        private Tree tree;
        private int at;
        /** The bindings in force: a cell of a value and the bindings around it, or 0. */
        private int bindings;
        private int state;
        private int begun;
        private int open;
        private int most;

        int begunFunctions() {
            return begun;
        }

        int mostOpen() {
            return most;
        }

        int result() {
            return stack.top(0);
        }

        int part(int cell, int which) {
            return heap.get(cell + which);
        }

        /** Makes the plan of all definitions of a program, and keeps it in the program. */
        void plan(Tree whole) {
            tree = whole;
            tree.plan.clear();
            tree.planned.clear();
            for (int d = 0; d < tree.definitionCount(); d++) {
                tree.planned.add(0);
                tree.planned.add(tree.parametersOf(d));
            }
            for (int d = 0; d < tree.definitionCount(); d++) {
                tree.planned.set(2 * d, tree.plan.size);
                scope.clear();
                for (int i = 1; i <= tree.parametersOf(d); i++) {
                    scope.add(tree.definitionToken.get(d) + i);
                }
                plan(tree.definitionBody.get(d), 0);
                deed(DO_RETURN, 0);
            }
        }

        private void deed(int what, int with) {
            tree.plan.add(what);
            tree.plan.add(with);
        }

        /** Lays down a jump whose aim is told later by land(). */
        private int jump(int what) {
            deed(what, 0);
            return tree.plan.size - 1;
        }

        private void land(int jump) {
            tree.plan.set(jump, tree.plan.size);
        }

        private void plan(int node, int depth) {
            if (depth > MOST_DEPTH) {
                return;
            }
            switch (tree.sort.get(node)) {
                case NODE_NUMBER:
                case NODE_TRUTH:
                    deed(DO_PUSH, tree.amount.get(node));
                    break;
                case NODE_NAME:
                    planName(tree.token.get(node));
                    break;
                case NODE_LET:
                    plan(tree.part(node, 0), depth + 1);
                    deed(DO_BIND, 0);
                    scope.add(tree.token.get(node));
                    plan(tree.part(node, 1), depth + 1);
                    unbind(1);
                    break;
                case NODE_IF:
                    planIf(node, depth + 1);
                    break;
                case NODE_FUN:
                    planFun(node, depth + 1);
                    break;
                case NODE_CASE_LIST:
                    planCaseOfList(node, depth + 1);
                    break;
                case NODE_CASE_PAIR:
                    plan(tree.part(node, 0), depth + 1);
                    planBound(node, tree.part(node, 1), depth + 1);
                    break;
                default:
                    planParts(node, depth + 1);
                    break;
            }
        }

        private void planName(int atom) {
            int definition = tree.definitionOfAtom(atom);
            if (definition != NONE) {
                deed(DO_DEFINITION, definition);
                return;
            }
            int binder = tree.bound.get(atom);
            int outwards = 0;
            for (int i = scope.size - 1; i >= 0 && scope.get(i) != binder; i--) {
                outwards++;
            }
            deed(DO_NAME, outwards);
        }

        private void unbind(int many) {
            deed(DO_UNBIND, many);
            scope.cut(scope.size - many);
        }

        /** All that works its parts out from the left to the right. */
        private void planParts(int node, int depth) {
            int sort = tree.sort.get(node);
            int many = 0;
            for (int p = tree.part(node, 0); p != NONE && many < MOST_TEXT; p = tree.next.get(p)) {
                plan(p, depth);
                if (many > 0 && sort == NODE_USE) {
                    deed(DO_APPLY, 0);
                } else if (many > 0 && (sort == NODE_SUM || sort == NODE_TERM || sort == NODE_TEST)) {
                    deed(DO_OPERATION + tree.sign.get(p), 0);
                }
                many++;
            }
            if (sort == NODE_LIST) {
                deed(DO_PUSH, EMPTY);
            }
            if (sort == NODE_PAIR) {
                deed(DO_PAIR, 0);
            }
            int links = sort == NODE_LIST ? many : sort == NODE_CELL ? many - 1 : 0;
            for (int i = 0; i < links; i++) {
                deed(DO_LINK, 0);
            }
        }

        private void planIf(int node, int depth) {
            plan(tree.part(node, 0), depth);
            int toElse = jump(DO_JUMP_ON_NO);
            plan(tree.part(node, 1), depth);
            int toEnd = jump(DO_JUMP);
            land(toElse);
            plan(tree.part(node, 2), depth);
            land(toEnd);
        }

        private void planFun(int node, int depth) {
            int many = tree.amount.get(node);
            deed(DO_FUNCTION, tree.planned.size / 2);
            int over = jump(DO_JUMP);
            tree.planned.add(tree.plan.size);
            tree.planned.add(many);
            for (int i = 1; i <= many; i++) {
                scope.add(tree.token.get(node) + i);
            }
            plan(tree.part(node, 0), depth);
            scope.cut(scope.size - many);
            deed(DO_RETURN, 0);
            land(over);
        }

        private void planCaseOfList(int node, int depth) {
            plan(tree.part(node, 0), depth);
            int toLink = jump(DO_JUMP_ON_LINK);
            plan(tree.part(node, 1), depth);
            int toEnd = jump(DO_JUMP);
            land(toLink);
            planBound(node, tree.part(node, 2), depth);
            land(toEnd);
        }

        /** A branch whose two names are the parts of the cell on the stack. */
        private void planBound(int node, int branch, int depth) {
            deed(DO_BIND_BOTH, 0);
            scope.add(tree.amount.get(node));
            scope.add(tree.amount.get(node) + 2);
            plan(branch, depth);
            unbind(2);
        }

        /** Answers how a definition ends with these numbers; its value is then result(). */
        int workOut(Tree whole, int definition, int a, int b, int c) {
            tree = whole;
            stack.clear();
            frames.clear();
            heap.clear();
            // Place 0 is no cell, it stands for what is empty.
            heap.add(0);
            begun = 0;
            open = 0;
            most = 0;
            state = GOING;
            bindings = 0;
            at = 0;
            int many = tree.parametersOf(definition);
            int inner = many > 0 ? cell(a, 0) : 0;
            inner = many > 1 ? cell(b, inner) : inner;
            inner = many > 2 ? cell(c, inner) : inner;
            carryOut(definition, inner);
            for (int i = 0; i < FAR && state == GOING; i++) {
                int what = tree.plan.get(at);
                int with = tree.plan.get(at + 1);
                at += 2;
                act(what, with);
            }
            return state == GOING ? MEANT_BOUND : state;
        }

        private int cell(int one, int other) {
            heap.add(one);
            heap.add(other);
            return heap.size - 2;
        }

        private void act(int what, int with) {
            switch (what) {
                case DO_PUSH:
                    stack.add(with);
                    break;
                case DO_NAME:
                    pushNamed(with);
                    break;
                case DO_DEFINITION:
                case DO_FUNCTION:
                    pushFunction(with);
                    break;
                case DO_APPLY:
                    apply();
                    break;
                case DO_LINK:
                case DO_PAIR:
                    int behind = stack.pop();
                    stack.add(cell(stack.pop(), behind));
                    break;
                case DO_JUMP:
                    at = with;
                    break;
                case DO_JUMP_ON_NO:
                    at = stack.pop() == NO ? with : at;
                    break;
                case DO_JUMP_ON_LINK:
                    jumpOnLink(with);
                    break;
                case DO_BIND:
                    bindings = cell(stack.pop(), bindings);
                    break;
                case DO_BIND_BOTH:
                    int both = stack.pop();
                    bindings = cell(part(both, 1), cell(part(both, 0), bindings));
                    break;
                case DO_UNBIND:
                    bindings = outwards(with);
                    break;
                case DO_RETURN:
                    giveValue();
                    break;
                default:
                    operate(what - DO_OPERATION);
                    break;
            }
        }

        private int outwards(int many) {
            int found = bindings;
            for (int i = 0; i < many; i++) {
                found = part(found, 1);
            }
            return found;
        }

        private void pushNamed(int many) {
            stack.add(part(outwards(many), 0));
        }

        /** A function that has got nothing yet; one without parameters is carried out at once. */
        private void pushFunction(int which) {
            int lacking = tree.planned.get(2 * which + 1);
            if (lacking == 0) {
                carryOut(which, 0);
                return;
            }
            int around = which < tree.definitionCount() ? 0 : bindings;
            stack.add(function(which, around, lacking));
        }

        private int function(int which, int around, int lacking) {
            heap.add(which);
            heap.add(around);
            heap.add(lacking);
            return heap.size - 3;
        }

        private void apply() {
            int given = stack.pop();
            int function = stack.pop();
            int which = part(function, 0);
            int inner = cell(given, part(function, 1));
            int lacking = part(function, 2) - 1;
            if (lacking <= 0) {
                carryOut(which, inner);
            } else {
                stack.add(function(which, inner, lacking));
            }
        }

        private void carryOut(int which, int inner) {
            if (begun >= MOST_BEGUN || open >= MOST_OPEN) {
                state = MEANT_BOUND;
                return;
            }
            begun++;
            open++;
            most = Math.max(most, open);
            frames.add(at);
            frames.add(bindings);
            at = tree.planned.get(2 * which);
            bindings = inner;
        }

        private void giveValue() {
            open--;
            bindings = frames.pop();
            at = frames.pop();
            if (open <= 0) {
                state = MEANT_VALUE;
            }
        }

        private void jumpOnLink(int aim) {
            if (stack.top(0) == EMPTY) {
                stack.pop();
            } else {
                at = aim;
            }
        }

        private void operate(int sign) {
            int right = stack.pop();
            int left = stack.pop();
            if (isDivision(sign) && right == 0) {
                state = MEANT_DIVISION;
            } else {
                stack.add(operated(sign, left, right));
            }
        }

        static boolean isDivision(int sign) {
            return sign == TOKEN_DIVIDE || sign == TOKEN_REST;
        }

        /** What an operation gives, as a number or 1 for yes and 0 for no; a division by 0 is not asked. */
        static int operated(int sign, int left, int right) {
            switch (sign) {
                case TOKEN_PLUS:
                    return gone(left + right);
                case TOKEN_MINUS:
                    return gone(left - right);
                case TOKEN_TIMES:
                    return gone(left * right);
                case TOKEN_DIVIDE:
                    return right == 0 ? 0 : gone(left / right);
                case TOKEN_REST:
                    return right == 0 ? 0 : gone(left % right);
                case TOKEN_LESS:
                    return left < right ? YES : NO;
                case TOKEN_AT_MOST:
                    return left <= right ? YES : NO;
                default:
                    return left == right ? YES : NO;
            }
        }

        /** A number gone round: its lowest 31 bits, with a sign. */
        private static int gone(int number) {
            return number << 1 >> 1;
        }
    }

    /** A module: all that its bytes tell, and what the machine needs beside it. */
    private static final class WasmModule {
        /** Of each type 2 for each parameter, and 1 for a value. */
        private final Ints types = new Ints(16);
        private final Ints importHost = new Ints(8);
        private final Ints importType = new Ints(8);
        private final Ints functionType = new Ints(32);
        private final Ints starts = new Ints(32);
        private final Ints locals = new Ints(32);
        /** NONE without a table. */
        private int tableSize = NONE;
        /** NONE without a memory. */
        private int pagesAtLeast = NONE;
        private int pagesAtMost = NONE;
        private final long[] exportName = new long[20];
        private final Ints exportLength = new Ints(16);
        private final Ints exportFunction = new Ints(16);
        private final Ints elementPlace = new Ints(4);
        private final Ints elementSize = new Ints(4);
        private final Ints elementFunction = new Ints(32);
        private final Ints op = new Ints(256);
        private final Ints argument = new Ints(256);
        /** Where an instruction goes on elsewhere; the checker finds it. */
        private final Ints aim = new Ints(256);
        /** The function at each entry of the table, or NONE; the checker finds it. */
        private final Ints table = new Ints(32);
        /** The type of each function, imports ahead, in the form of types; the checker finds it. */
        private final Ints shapes = new Ints(32);
        /** The program that it was made of; null if it was read. */
        private Tree tree;

        void clear() {
            types.clear();
            importHost.clear();
            importType.clear();
            functionType.clear();
            starts.clear();
            locals.clear();
            tableSize = NONE;
            pagesAtLeast = NONE;
            pagesAtMost = NONE;
            exportLength.clear();
            exportFunction.clear();
            elementPlace.clear();
            elementSize.clear();
            elementFunction.clear();
            op.clear();
            argument.clear();
            aim.clear();
            table.clear();
            shapes.clear();
            tree = null;
        }

        boolean isMade() {
            return tree != null;
        }

        boolean canBeAsked(int export) {
            return tree == null || tree.canBeAsked(export);
        }

        int importCount() {
            return importHost.size;
        }

        int ownCount() {
            return functionType.size;
        }

        int functionCount() {
            return importHost.size + functionType.size;
        }

        int tableEntries() {
            return tableSize == NONE ? 0 : tableSize;
        }

        int leastPages() {
            return pagesAtLeast == NONE ? 0 : pagesAtLeast;
        }

        int mostPages() {
            return pagesAtLeast == NONE ? 0 : pagesAtMost;
        }

        int instructionsOf(int own) {
            return (own + 1 < starts.size ? starts.get(own + 1) : op.size) - starts.get(own);
        }

        int typeNumber(int function) {
            int own = function - importHost.size;
            return own < 0 ? importType.get(function) : functionType.get(own);
        }

        int typeOfFunction(int function) {
            return shapes.get(function);
        }

        int parametersOf(int function) {
            return shapes.get(function) >> 1;
        }

        /** Which function of the host a function is, or NONE. */
        int hostOf(int function) {
            return function >= 0 && function < importHost.size ? importHost.get(function) : NONE;
        }

        void addExport(long name, int length, int function) {
            int which = exportLength.size;
            if (which < exportName.length) {
                exportName[which] = name;
                exportLength.add(length);
                exportFunction.add(function);
            }
        }

        long nameOfExport(int export) {
            return export >= 0 && export < exportName.length ? exportName[export] : 0;
        }

        boolean isLike(WasmModule other) {
            return types.isLike(other.types) && importHost.isLike(other.importHost)
                    && importType.isLike(other.importType) && functionType.isLike(other.functionType)
                    && starts.isLike(other.starts) && locals.isLike(other.locals)
                    && tableSize == other.tableSize && pagesAtLeast == other.pagesAtLeast
                    && pagesAtMost == other.pagesAtMost && hasLikeExports(other)
                    && elementPlace.isLike(other.elementPlace) && elementSize.isLike(other.elementSize)
                    && elementFunction.isLike(other.elementFunction) && op.isLike(other.op)
                    && argument.isLike(other.argument);
        }

        private boolean hasLikeExports(WasmModule other) {
            boolean like = exportLength.isLike(other.exportLength) && exportFunction.isLike(other.exportFunction);
            for (int i = 0; like && i < exportLength.size; i++) {
                like = nameOfExport(i) == other.nameOfExport(i);
            }
            return like;
        }

        /** The type of a function of the host, in the form of types. */
        static int hostType(int host) {
            switch (host) {
                case HOST_DUP:
                case HOST_ROOM:
                    return 3;
                case HOST_DROP:
                    return 2;
                default:
                    return 5;
            }
        }

        static String hostName(int host) {
            switch (host) {
                case HOST_DUP:
                    return "dup";
                case HOST_DROP:
                    return "drop";
                case HOST_LINK:
                    return "link";
                case HOST_PAIR:
                    return "pair";
                default:
                    return "room";
            }
        }
    }

    /** Makes modules of programs. It works on a copy of the program, which it may change. */
    private static final class Maker {
        private static final int APPLY = HOST_FUNCTIONS;
        private static final int WORD_YES = 3;
        private static final int WORD_NO = 1;
        private static final int WORD_EMPTY = 2;
        private static final int MOST_PAGES = 8;
        private static final int MARK_OTHER = 1;
        private static final int MARK_OWN = 2;
        private final Tree tree = new Tree();
        /** All by token: what stands there, or NONE. */
        private final Ints local = new Ints(64);
        private final Ints function = new Ints(64);
        private final Ints wrapper = new Ints(64);
        private final Ints parameters = new Ints(64);
        /** By token: how many atoms follow on an atom in its use. */
        private final Ints followers = new Ints(64);
        /** By binder: how many atoms name it. */
        private final Ints uses = new Ints(64);
        /** By binder: how many atoms name it in what is worked out behind the code at hand. */
        private final Ints needed = new Ints(64);
        private final Ints mark = new Ints(64);
        private final Ints caught = new Ints(64);
        /** The tokens of the definitions' names and of the funs, in the order of their functions. */
        private final Ints owners = new Ints(64);
        private WasmModule module;
        private int localCount;
        /** The definition whose last uses of itself go back to its loop; NONE without a loop. */
        private int looping;
        private int openIfs;

        void build(Tree program, int level, WasmModule into) {
            module = into;
            module.clear();
            tree.copyShape(program);
            if (level == 1) {
                for (int d = 0; d < tree.definitionCount(); d++) {
                    fold(tree.definitionBody.get(d), 0);
                }
            }
            lookAtAtoms();
            numberFunctions();
            putFrame();
            putApply();
            for (int i = 0; i < owners.size; i++) {
                putFunction(owners.get(i), level);
            }
            for (int i = 0; i < owners.size; i++) {
                if (parameters.get(owners.get(i)) > 0) {
                    putWrapper(function.get(owners.get(i)), parameters.get(owners.get(i)));
                }
            }
            module.tree = program;
        }

        // Level 1: what can be worked out ahead.

        private void fold(int node, int depth) {
            if (depth > MOST_DEPTH) {
                return;
            }
            for (int p = tree.part(node, 0), i = 0; p != NONE && i < MOST_TEXT; p = tree.next.get(p), i++) {
                fold(p, depth + 1);
            }
            int sort = tree.sort.get(node);
            if (sort == NODE_SUM || sort == NODE_TERM) {
                foldChain(node);
            } else if (sort == NODE_TEST) {
                foldTest(node);
            } else if (sort == NODE_IF) {
                foldIf(node);
            }
        }

        /** The first two parts stand in each other's brackets, so to say: they are folded as long as it goes. */
        private void foldChain(int node) {
            int first = tree.part(node, 0);
            for (int i = 0; i < MOST_TEXT && canFold(first, tree.next.get(first)); i++) {
                int second = tree.next.get(first);
                tree.amount.set(first, Meaning.operated(tree.sign.get(second), tree.amount.get(first),
                        tree.amount.get(second)));
                tree.next.set(first, tree.next.get(second));
            }
            if (tree.next.get(first) == NONE) {
                become(node, first);
            }
        }

        private boolean canFold(int left, int right) {
            return right != NONE && tree.sort.get(left) == NODE_NUMBER && tree.sort.get(right) == NODE_NUMBER
                    && !(Meaning.isDivision(tree.sign.get(right)) && tree.amount.get(right) == 0);
        }

        private void foldTest(int node) {
            int left = tree.part(node, 0);
            int right = tree.part(node, 1);
            if (canFold(left, right)) {
                int truth = Meaning.operated(tree.sign.get(right), tree.amount.get(left), tree.amount.get(right));
                become(node, left);
                tree.sort.set(node, NODE_TRUTH);
                tree.amount.set(node, truth);
            }
        }

        private void foldIf(int node) {
            int test = tree.part(node, 0);
            if (tree.sort.get(test) != NODE_TRUTH) {
                return;
            }
            boolean isYes = tree.amount.get(test) == Meaning.YES;
            leaveOut(tree.part(node, isYes ? 2 : 1));
            become(node, tree.part(node, isYes ? 1 : 2));
        }

        private void leaveOut(int node) {
            for (int t = tree.first.get(node); t <= tree.last.get(node); t++) {
                tree.kind.set(t, TOKEN_BAD);
                tree.bound.set(t, Tree.NOT_BOUND);
            }
        }

        /** A node is what another one is; its place among its fellows stays. */
        private void become(int node, int other) {
            tree.sort.set(node, tree.sort.get(other));
            tree.token.set(node, tree.token.get(other));
            tree.first.set(node, tree.first.get(other));
            tree.last.set(node, tree.last.get(other));
            tree.child.set(node, tree.child.get(other));
            tree.amount.set(node, tree.amount.get(other));
        }

        // Names, functions, locals.

        private void lookAtAtoms() {
            int tokens = tree.kind.size;
            uses.zeros(tokens);
            needed.zeros(tokens);
            mark.zeros(tokens);
            local.zeros(tokens);
            followers.zeros(tokens);
            for (int t = 0; t < tokens; t++) {
                if (tree.isBoundAtom(t)) {
                    uses.change(tree.bound.get(t), 1);
                }
            }
            for (int n = 0; n < tree.sort.size; n++) {
                int first = tree.sort.get(n) == NODE_USE ? tree.part(n, 0) : NONE;
                if (tree.namedDefinition(first) != NONE) {
                    followers.set(tree.token.get(first), tree.partCount(n) - 1);
                }
            }
        }

        private void numberFunctions() {
            int tokens = tree.kind.size;
            function.zeros(tokens);
            wrapper.zeros(tokens);
            parameters.zeros(tokens);
            owners.clear();
            for (int d = 0; d < tree.definitionCount(); d++) {
                int name = tree.definitionToken.get(d);
                parameters.set(name, tree.parametersOf(d));
                owners.add(name);
                for (int t = name; t < tree.endOfDefinition(d); t++) {
                    if (tree.kind.get(t) == TOKEN_FUN) {
                        findCaught(t);
                        parameters.set(t, caught.size + tree.amount.get(tree.nodeOfToken.get(t)));
                        owners.add(t);
                    }
                }
            }
            int wrappers = 0;
            for (int i = 0; i < owners.size; i++) {
                function.set(owners.get(i), APPLY + 1 + i);
                if (parameters.get(owners.get(i)) > 0) {
                    wrapper.set(owners.get(i), wrappers);
                    wrappers++;
                }
            }
        }

        /** The binders outside of a fun of the names that stand in it; as they come, so their locals come. */
        private void findCaught(int fun) {
            caught.clear();
            int last = tree.last.get(tree.nodeOfToken.get(fun));
            for (int t = fun; t <= last; t++) {
                if (tree.isBoundAtom(t) && tree.bound.get(t) < fun) {
                    mark.set(tree.bound.get(t), 1);
                }
            }
            for (int b = 0; b < fun; b++) {
                if (mark.get(b) != 0) {
                    caught.add(b);
                    mark.set(b, 0);
                }
            }
        }

        private void addLocal(int token) {
            local.set(token, localCount);
            localCount++;
        }

        private void numberParameters(int owner) {
            localCount = 0;
            int own = parameters.get(owner);
            if (tree.kind.get(owner) == TOKEN_FUN) {
                findCaught(owner);
                for (int i = 0; i < caught.size; i++) {
                    addLocal(caught.get(i));
                }
                own -= caught.size;
            }
            for (int i = 1; i <= own; i++) {
                addLocal(owner + i);
            }
        }

        /** Numbers the locals of a body: names that are used, and the hidden ones of cases and function cells. */
        private void numberLocals(int body) {
            int last = tree.last.get(body);
            for (int t = tree.first.get(body); t <= last; t++) {
                int kind = tree.kind.get(t);
                if (uses.get(t) > 0 || kind == TOKEN_CASE || kind == TOKEN_FUN || makesCell(t)) {
                    addLocal(t);
                }
                if (kind == TOKEN_FUN) {
                    t = Math.max(t, tree.last.get(tree.nodeOfToken.get(t)));
                }
            }
        }

        private boolean makesCell(int atom) {
            int definition = tree.definitionOfAtom(atom);
            return definition != NONE && followers.get(atom) < tree.parametersOf(definition);
        }

        // The frame of the module.

        private void putFrame() {
            int most = 2;
            for (int i = 0; i < owners.size; i++) {
                most = Math.max(most, parameters.get(owners.get(i)));
            }
            for (int k = 0; k <= most; k++) {
                module.types.add(2 * k + 1);
            }
            module.types.add(WasmModule.hostType(HOST_DROP));
            for (int h = 0; h < HOST_FUNCTIONS; h++) {
                module.importHost.add(h);
                module.importType.add(h == HOST_DROP ? most + 1 : WasmModule.hostType(h) >> 1);
            }
            int firstWrapper = APPLY + 1 + owners.size;
            int wrappers = 0;
            for (int i = 0; i < owners.size; i++) {
                if (parameters.get(owners.get(i)) > 0) {
                    module.elementFunction.add(firstWrapper + wrappers);
                    wrappers++;
                }
            }
            module.tableSize = wrappers;
            module.elementPlace.add(0);
            module.elementSize.add(wrappers);
            module.pagesAtLeast = 1;
            module.pagesAtMost = MOST_PAGES;
            putExports();
        }

        private void putExports() {
            for (int d = 0; d < tree.definitionCount(); d++) {
                int name = tree.definitionToken.get(d);
                long rest = tree.number.get(name) & 0xffffffffL;
                long signs = 0;
                int length = 0;
                for (; rest > 0 && length < 8; length++) {
                    long sign = rest % 37 > 26 ? rest % 37 - 27 + '0' : rest % 37 - 1 + 'a';
                    signs |= sign << (8 * length);
                    rest /= 37;
                }
                module.addExport(signs, length, function.get(name));
            }
        }

        private void put(int code) {
            module.op.add(code);
            module.argument.add(NONE);
        }

        private void put(int code, int with) {
            module.op.add(code);
            module.argument.add(with);
        }

        private void putConst(int word) {
            put(OP_CONST, word);
        }

        private void call(int called) {
            put(OP_CALL, called);
        }

        private void beginCode(int itsParameters) {
            module.functionType.add(itsParameters);
            module.starts.add(module.op.size);
        }

        private void putApply() {
            beginCode(2);
            module.locals.add(2);
            put(OP_GET, 0);
            put(OP_LOAD, 12);
            putConst(3);
            put(OP_EQ);
            put(OP_IF, WITH_VALUE);
            put(OP_GET, 0);
            put(OP_GET, 1);
            put(OP_GET, 0);
            put(OP_LOAD, 8);
            putConst(1);
            put(OP_SHR_U);
            put(OP_CALL_INDIRECT, 2);
            put(OP_ELSE);
            putCopy();
            put(OP_GET, 2);
            put(OP_GET, 0);
            put(OP_LOAD, 12);
            putConst(2);
            put(OP_SUB);
            put(OP_STORE, 12);
            put(OP_GET, 0);
            call(HOST_DROP);
            put(OP_GET, 2);
            put(OP_END);
            put(OP_END);
        }

        /** APPLY's new cell: one field more than the old one has, the given word in it, the others copied. */
        private void putCopy() {
            put(OP_GET, 0);
            put(OP_LOAD, 4);
            putConst(2);
            put(OP_SHR_U);
            put(OP_TEE, 3);
            putConst(1);
            put(OP_ADD);
            call(HOST_ROOM);
            put(OP_SET, 2);
            putFieldPlace(2);
            put(OP_GET, 1);
            put(OP_STORE, 8);
            put(OP_LOOP, WITHOUT_VALUE);
            put(OP_GET, 3);
            putConst(1);
            put(OP_SUB);
            put(OP_SET, 3);
            putFieldPlace(2);
            putFieldPlace(0);
            put(OP_LOAD, 8);
            call(HOST_DUP);
            put(OP_STORE, 8);
            put(OP_GET, 3);
            put(OP_BR_IF, 0);
            put(OP_END);
        }

        private void putFieldPlace(int cell) {
            put(OP_GET, cell);
            put(OP_GET, 3);
            putConst(2);
            put(OP_SHL);
            put(OP_ADD);
        }

        private void putWrapper(int wrapped, int many) {
            beginCode(2);
            module.locals.add(0);
            for (int i = 0; i < many - 1; i++) {
                put(OP_GET, 0);
                put(OP_LOAD, 16 + 4 * i);
                call(HOST_DUP);
            }
            put(OP_GET, 0);
            call(HOST_DROP);
            put(OP_GET, 1);
            call(wrapped);
            put(OP_END);
        }

        // The functions of definitions and funs.

        private void putFunction(int owner, int level) {
            int definition = tree.kind.get(owner) == TOKEN_FUN ? NONE : definitionOf(owner);
            int body = definition == NONE ? tree.part(tree.nodeOfToken.get(owner), 0)
                    : tree.definitionBody.get(definition);
            numberParameters(owner);
            int many = localCount;
            numberLocals(body);
            beginCode(many);
            module.locals.add(localCount - many);
            openIfs = 0;
            looping = level == 1 && definition != NONE && endsInItself(body, definition, 0) ? definition : NONE;
            if (looping != NONE) {
                put(OP_LOOP, WITH_VALUE);
            }
            dropUnused(owner, definition == NONE ? tree.amount.get(tree.nodeOfToken.get(owner)) : many);
            putCode(body, looping != NONE, 0);
            if (looping != NONE) {
                put(OP_END);
            }
            put(OP_END);
        }

        private int definitionOf(int name) {
            for (int d = 0; d < tree.definitionCount(); d++) {
                if (tree.definitionToken.get(d) == name) {
                    return d;
                }
            }
            return NONE;
        }

        /** Caught names stand in the body always, so that only the owner's own ones can be unused. */
        private void dropUnused(int owner, int own) {
            for (int i = 1; i <= own; i++) {
                if (uses.get(owner + i) == 0) {
                    putDrop(owner + i);
                }
            }
        }

        private void putDrop(int binder) {
            put(OP_GET, local.get(binder));
            put(OP_CALL, HOST_DROP);
        }

        /** Whether a use of the definition with all its parameters is in a last place of an exp. */
        private boolean endsInItself(int node, int definition, int depth) {
            if (depth > MOST_DEPTH) {
                return false;
            }
            switch (tree.sort.get(node)) {
                case NODE_USE:
                    return isUseOf(node, definition);
                case NODE_LET:
                case NODE_CASE_PAIR:
                    return endsInItself(tree.part(node, 1), definition, depth + 1);
                case NODE_IF:
                case NODE_CASE_LIST:
                    return endsInItself(tree.part(node, 1), definition, depth + 1)
                            || endsInItself(tree.part(node, 2), definition, depth + 1);
                default:
                    return false;
            }
        }

        private boolean isUseOf(int node, int definition) {
            return tree.namedDefinition(tree.part(node, 0)) == definition
                    && tree.partCount(node) - 1 == tree.parametersOf(definition);
        }

        /** Counts the names of an exp in, or out of, what is needed behind. */
        private void need(int node, int difference) {
            int last = tree.last.get(node);
            for (int t = tree.first.get(node); node != NONE && t <= last; t++) {
                if (tree.isBoundAtom(t)) {
                    needed.change(tree.bound.get(t), difference);
                }
            }
        }

        private void putCode(int node, boolean isLast, int depth) {
            if (depth > MOST_DEPTH) {
                return;
            }
            switch (tree.sort.get(node)) {
                case NODE_NUMBER:
                    putConst(2 * tree.amount.get(node) + 1);
                    break;
                case NODE_TRUTH:
                    putConst(tree.amount.get(node) == Meaning.YES ? WORD_YES : WORD_NO);
                    break;
                case NODE_NAME:
                    putName(node);
                    break;
                case NODE_USE:
                    putUse(node, isLast, depth + 1);
                    break;
                case NODE_LET:
                    putLet(node, isLast, depth + 1);
                    break;
                case NODE_IF:
                    putIf(node, isLast, depth + 1);
                    break;
                case NODE_FUN:
                    putFun(tree.token.get(node));
                    break;
                case NODE_CASE_LIST:
                    putCaseOfList(node, isLast, depth + 1);
                    break;
                case NODE_CASE_PAIR:
                    putCaseOfPair(node, isLast, depth + 1);
                    break;
                default:
                    putParts(node, depth + 1);
                    break;
            }
        }

        private void putLocal(int binder) {
            put(OP_GET, local.get(binder));
            if (needed.get(binder) > 0) {
                put(OP_CALL, HOST_DUP);
            }
        }

        private void needAll(int firstPart) {
            for (int p = firstPart, i = 0; p != NONE && i < MOST_TEXT; p = tree.next.get(p), i++) {
                need(p, 1);
            }
        }

        /** Lists, pairs, and operations: their parts, and what makes one word of them. */
        private void putParts(int node, int depth) {
            int sort = tree.sort.get(node);
            int p = tree.part(node, 0);
            needAll(p);
            int many = 0;
            for (; p != NONE && many < MOST_TEXT; p = tree.next.get(p)) {
                int sign = many == 0 ? 0 : tree.sign.get(p);
                putBetween(sign);
                need(p, -1);
                putCode(p, false, depth);
                putOperation(sign);
                many++;
            }
            if (sort == NODE_LIST) {
                putConst(WORD_EMPTY);
            }
            if (sort == NODE_PAIR) {
                call(HOST_PAIR);
            }
            int links = sort == NODE_LIST ? many : sort == NODE_CELL ? many - 1 : 0;
            for (int i = 0; i < links; i++) {
                call(HOST_LINK);
            }
        }

        private void putWith(int operand, int code) {
            put(OP_CONST, operand);
            put(code);
        }

        /** What an operation does with its left side ahead of the code of its right one. */
        private void putBetween(int sign) {
            if (sign == TOKEN_TIMES) {
                putWith(1, OP_SUB);
            } else if (Meaning.isDivision(sign)) {
                putWith(1, OP_SHR_S);
            }
        }

        private void putOperation(int sign) {
            switch (sign) {
                case TOKEN_PLUS:
                    put(OP_ADD);
                    putWith(1, OP_SUB);
                    break;
                case TOKEN_MINUS:
                    put(OP_SUB);
                    putWith(1, OP_ADD);
                    break;
                case TOKEN_TIMES:
                    putWith(1, OP_SHR_S);
                    put(OP_MUL);
                    putWith(1, OP_ADD);
                    break;
                case TOKEN_DIVIDE:
                case TOKEN_REST:
                    putWith(1, OP_SHR_S);
                    putShifted(sign == TOKEN_DIVIDE ? OP_DIV_S : OP_REM_S);
                    break;
                case TOKEN_LESS:
                    putShifted(OP_LT_S);
                    break;
                case TOKEN_AT_MOST:
                    putShifted(OP_LE_S);
                    break;
                case TOKEN_EQUAL:
                    putShifted(OP_EQ);
                    break;
                default:
                    break;
            }
        }

        private void putShifted(int code) {
            put(code);
            put(OP_CONST, 1);
            put(OP_SHL);
            put(OP_CONST, 1);
            put(OP_ADD);
        }

        private void putUse(int node, boolean isLast, int depth) {
            int first = tree.part(node, 0);
            int given = tree.next.get(first);
            int definition = tree.namedDefinition(first);
            needAll(given);
            if (definition == NONE) {
                putCode(first, false, depth);
                putApplied(given, depth);
            } else if (makesCell(tree.token.get(first))) {
                putPartial(tree.token.get(first), definition, given, depth);
            } else {
                putDirect(definition, given, isLast, depth);
            }
        }

        /** A name that stands alone. */
        private void putName(int node) {
            int atom = tree.token.get(node);
            int definition = tree.definitionOfAtom(atom);
            if (definition == NONE) {
                putLocal(tree.bound.get(atom));
            } else if (makesCell(atom)) {
                putPartial(atom, definition, NONE, 0);
            } else {
                putDirect(definition, NONE, false, 0);
            }
        }

        /** Each atom from one on is worked out and given to the function below it. */
        private void putApplied(int firstPart, int depth) {
            for (int p = firstPart, i = 0; p != NONE && i < MOST_TEXT; p = tree.next.get(p), i++) {
                need(p, -1);
                putCode(p, false, depth);
                call(APPLY);
            }
        }

        /** A definition with all its parameters: it is called, or, in a last place of itself, begun anew. */
        private void putDirect(int definition, int given, boolean isLast, int depth) {
            int many = tree.parametersOf(definition);
            int name = tree.definitionToken.get(definition);
            int p = given;
            for (int i = 0; i < many && p != NONE; i++) {
                need(p, -1);
                putCode(p, false, depth);
                p = tree.next.get(p);
            }
            if (isLast && definition == looping && p == NONE) {
                for (int i = many; i >= 1; i--) {
                    put(OP_SET, local.get(name + i));
                }
                put(OP_BR, openIfs);
            } else {
                call(function.get(name));
                putApplied(p, depth);
            }
        }

        /** A definition with fewer atoms than it has parameters: a function cell. */
        private void putPartial(int atom, int definition, int given, int depth) {
            int name = tree.definitionToken.get(definition);
            int hidden = local.get(atom);
            putRoom(hidden, wrapper.get(name), tree.parametersOf(definition), followers.get(atom));
            int place = 16;
            for (int p = given, i = 0; p != NONE && i < MOST_TEXT; p = tree.next.get(p), i++) {
                put(OP_GET, hidden);
                need(p, -1);
                putCode(p, false, depth);
                put(OP_STORE, place);
                place += 4;
            }
            put(OP_GET, hidden);
        }

        private void putFun(int fun) {
            int hidden = local.get(fun);
            findCaught(fun);
            putRoom(hidden, wrapper.get(fun), parameters.get(fun), caught.size);
            for (int i = 0; i < caught.size; i++) {
                put(OP_GET, hidden);
                putLocal(caught.get(i));
                put(OP_STORE, 16 + 4 * i);
            }
            put(OP_GET, hidden);
        }

        private void putRoom(int hidden, int itsWrapper, int many, int values) {
            put(OP_CONST, 2 + values);
            put(OP_CALL, HOST_ROOM);
            put(OP_SET, hidden);
            put(OP_GET, hidden);
            put(OP_CONST, 2 * itsWrapper + 1);
            put(OP_STORE, 8);
            put(OP_GET, hidden);
            put(OP_CONST, 2 * (many - values) + 1);
            put(OP_STORE, 12);
        }

        private void putLet(int node, boolean isLast, int depth) {
            int inner = tree.part(node, 1);
            int name = tree.token.get(node);
            need(inner, 1);
            putCode(tree.part(node, 0), false, depth);
            need(inner, -1);
            if (uses.get(name) > 0) {
                put(OP_SET, local.get(name));
            } else {
                call(HOST_DROP);
            }
            putCode(inner, isLast, depth);
        }

        /** The code of what is looked at ahead of two branches, whose names are all needed behind it. */
        private void putLooked(int node, int depth) {
            need(tree.part(node, 1), 1);
            need(tree.part(node, 2), 1);
            putCode(tree.part(node, 0), false, depth);
            need(tree.part(node, 1), -1);
            need(tree.part(node, 2), -1);
        }

        private void putIf(int node, boolean isLast, int depth) {
            int one = tree.part(node, 1);
            int other = tree.part(node, 2);
            putLooked(node, depth);
            putWith(2, OP_AND);
            put(OP_IF, WITH_VALUE);
            openIfs++;
            dropOthers(node, one, other);
            putCode(one, isLast, depth);
            put(OP_ELSE);
            dropOthers(node, other, one);
            putCode(other, isLast, depth);
            openIfs--;
            put(OP_END);
        }

        private void putCaseOfList(int node, boolean isLast, int depth) {
            int hidden = local.get(tree.token.get(node));
            int one = tree.part(node, 1);
            int other = tree.part(node, 2);
            putLooked(node, depth);
            put(OP_TEE, hidden);
            putWith(WORD_EMPTY, OP_EQ);
            put(OP_IF, WITH_VALUE);
            openIfs++;
            dropOthers(node, one, other);
            putCode(one, isLast, depth);
            put(OP_ELSE);
            dropOthers(node, other, one);
            putFields(node, hidden);
            putCode(other, isLast, depth);
            openIfs--;
            put(OP_END);
        }

        private void putCaseOfPair(int node, boolean isLast, int depth) {
            int hidden = local.get(tree.token.get(node));
            putLooked(node, depth);
            put(OP_SET, hidden);
            putFields(node, hidden);
            putCode(tree.part(node, 1), isLast, depth);
        }

        /** Takes the two fields of the hidden cell for the names of a branch that are used, and drops the cell. */
        private void putFields(int node, int hidden) {
            for (int i = 0; i < 2; i++) {
                int name = tree.amount.get(node) + 2 * i;
                if (uses.get(name) > 0) {
                    put(OP_GET, hidden);
                    put(OP_LOAD, 8 + 4 * i);
                    call(HOST_DUP);
                    put(OP_SET, local.get(name));
                }
            }
            put(OP_GET, hidden);
            call(HOST_DROP);
        }

        /** In one branch: drops the names that only the other one has, and that nothing behind both needs. */
        private void dropOthers(int node, int own, int other) {
            int end = tree.first.get(node);
            markNames(other, MARK_OTHER, end);
            markNames(own, MARK_OWN, end);
            for (int b = 0; b < end; b++) {
                if (mark.get(b) == MARK_OTHER && needed.get(b) == 0) {
                    putDrop(b);
                }
                mark.set(b, 0);
            }
        }

        /** Binders inside of the whole exp are no names of it: they stand behind its first token. */
        private void markNames(int node, int what, int end) {
            for (int t = tree.first.get(node); t <= tree.last.get(node); t++) {
                int binder = tree.bound.get(t);
                if (tree.isBoundAtom(t) && binder < end) {
                    mark.set(binder, mark.get(binder) | what);
                }
            }
        }
    }

    /** Writes modules as bytes, and reads them. */
    private static final class Coder {
        private static final int MOST_TYPES = 80;
        private static final int MOST_PARAMETERS = 60;
        private static final int MOST_IMPORTS = 8;
        private static final int MOST_FUNCTIONS = 250;
        private static final int MOST_ENTRIES = 120;
        private static final int MOST_PAGES = 16;
        private static final int MOST_EXPORTS = 20;
        private static final int MOST_NAME = 8;
        private static final int MOST_ELEMENTS = 10;
        private static final int MOST_LOCALS = 500;
        private static final int MOST_INSTRUCTIONS = 6000;
        private static final int MOST_BLOCKS = 30;
        private static final int SECTION_TYPES = 1;
        private static final int SECTION_IMPORTS = 2;
        private static final int SECTION_FUNCTIONS = 3;
        private static final int SECTION_TABLE = 4;
        private static final int SECTION_MEMORY = 5;
        private static final int SECTION_EXPORTS = 7;
        private static final int SECTION_ELEMENTS = 9;
        private static final int SECTION_CODES = 10;
        private static final int WITH_NOTHING = 0;
        private static final int WITH_BLOCK_TYPE = 1;
        private static final int WITH_NUMBER = 2;
        private static final int WITH_TYPE = 3;
        private static final int WITH_OFFSET = 4;
        private static final int WITH_ZERO = 5;
        private static final int WITH_WORD = 6;
        private static final int NO_INSTRUCTION = -1;
        private static final byte[] HEAD = {0, 97, 115, 109, 1, 0, 0, 0};
        private final Ints out = new Ints(256);
        private final Ints part = new Ints(256);
        private final Ints body = new Ints(128);
        private Ints in = out;
        private WasmModule module;
        private int at;
        private int faultKind;
        private int faultPlace = NONE;
        private int nameLength;

        int faultKindFound() {
            return faultKind;
        }

        int faultPlaceFound() {
            return faultPlace;
        }

        Ints codedBytes() {
            return out;
        }

        // Writing.

        /** Writes a module into codedBytes(). */
        void code(WasmModule whole) {
            module = whole;
            out.clear();
            for (int i = 0; i < HEAD.length; i++) {
                out.add(HEAD[i]);
            }
            part.clear();
            putTypes();
            putSection(SECTION_TYPES);
            putImports();
            putSection(SECTION_IMPORTS);
            putAll(module.functionType);
            putSection(SECTION_FUNCTIONS);
            if (module.tableSize != NONE) {
                putNumber(part, 1);
                part.add(112);
                part.add(0);
                putNumber(part, module.tableSize);
                putSection(SECTION_TABLE);
            }
            if (module.pagesAtLeast != NONE) {
                putNumber(part, 1);
                part.add(1);
                putNumber(part, module.pagesAtLeast);
                putNumber(part, module.pagesAtMost);
                putSection(SECTION_MEMORY);
            }
            putExports();
            putSection(SECTION_EXPORTS);
            putElements();
            putSection(SECTION_ELEMENTS);
            putCodes();
            putSection(SECTION_CODES);
        }

        /** Puts what lies in the part as a section, and empties it. */
        private void putSection(int number) {
            out.add(number);
            putNumber(out, part.size);
            out.addAll(part);
            part.clear();
        }

        private static void putNumber(Ints into, int number) {
            long rest = number & 0xffffffffL;
            for (int i = 0; i < 5; i++) {
                int group = (int) (rest & 127);
                rest >>>= 7;
                into.add(rest == 0 ? group : group | 128);
                if (rest == 0) {
                    return;
                }
            }
        }

        private static void putSigned(Ints into, int number) {
            int rest = number;
            for (int i = 0; i < 5; i++) {
                int group = rest & 127;
                rest >>= 7;
                boolean isLast = rest == 0 && group < 64 || rest == -1 && group >= 64;
                into.add(isLast ? group : group | 128);
                if (isLast) {
                    return;
                }
            }
        }

        /** A row of numbers. */
        private void putAll(Ints numbers) {
            putNumber(part, numbers.size);
            for (int i = 0; i < numbers.size; i++) {
                putNumber(part, numbers.get(i));
            }
        }

        private void putTypes() {
            putNumber(part, module.types.size);
            for (int i = 0; i < module.types.size; i++) {
                int type = module.types.get(i);
                part.add(96);
                putNumber(part, type >> 1);
                for (int k = 0; k < type >> 1; k++) {
                    part.add(127);
                }
                part.add(type & 1);
                if ((type & 1) != 0) {
                    part.add(127);
                }
            }
        }

        private void putImports() {
            putNumber(part, module.importCount());
            for (int i = 0; i < module.importCount(); i++) {
                part.add(1);
                part.add('h');
                String name = WasmModule.hostName(module.importHost.get(i));
                putNumber(part, name.length());
                for (int k = 0; k < name.length(); k++) {
                    part.add(name.charAt(k));
                }
                part.add(0);
                putNumber(part, module.importType.get(i));
            }
        }

        private void putExports() {
            putNumber(part, module.exportFunction.size);
            for (int i = 0; i < module.exportFunction.size; i++) {
                int length = module.exportLength.get(i);
                putNumber(part, length);
                for (int k = length - 1; k >= 0; k--) {
                    part.add((int) (module.nameOfExport(i) >>> 8 * k & 255));
                }
                part.add(0);
                putNumber(part, module.exportFunction.get(i));
            }
        }

        private void putElements() {
            putNumber(part, module.elementPlace.size);
            int next = 0;
            for (int i = 0; i < module.elementPlace.size; i++) {
                part.add(0);
                part.add(OP_CONST);
                putSigned(part, module.elementPlace.get(i));
                part.add(OP_END);
                putNumber(part, module.elementSize.get(i));
                for (int k = 0; k < module.elementSize.get(i); k++) {
                    putNumber(part, module.elementFunction.get(next));
                    next++;
                }
            }
        }

        private void putCodes() {
            putNumber(part, module.ownCount());
            for (int f = 0; f < module.ownCount(); f++) {
                body.clear();
                int locals = module.locals.get(f);
                putNumber(body, locals > 0 ? 1 : 0);
                if (locals > 0) {
                    putNumber(body, locals);
                    body.add(127);
                }
                int begin = module.starts.get(f);
                int end = begin + module.instructionsOf(f);
                for (int i = begin; i < end; i++) {
                    putInstruction(module.op.get(i), module.argument.get(i));
                }
                putNumber(part, body.size);
                part.addAll(body);
            }
        }

        private void putInstruction(int code, int with) {
            body.add(code);
            switch (shapeOf(code)) {
                case WITH_BLOCK_TYPE:
                    body.add(with);
                    break;
                case WITH_NUMBER:
                    putNumber(body, with);
                    break;
                case WITH_TYPE:
                    putNumber(body, with);
                    body.add(0);
                    break;
                case WITH_OFFSET:
                    body.add(2);
                    putNumber(body, with);
                    break;
                case WITH_ZERO:
                    body.add(0);
                    break;
                case WITH_WORD:
                    putSigned(body, with);
                    break;
                default:
                    break;
            }
        }

        /** What stands behind the byte of an instruction. */
        private static int shapeOf(int code) {
            switch (code) {
                case OP_BLOCK:
                case OP_LOOP:
                case OP_IF:
                    return WITH_BLOCK_TYPE;
                case OP_BR:
                case OP_BR_IF:
                case OP_CALL:
                case OP_GET:
                case OP_SET:
                case OP_TEE:
                    return WITH_NUMBER;
                case OP_CALL_INDIRECT:
                    return WITH_TYPE;
                case OP_LOAD:
                case OP_STORE:
                    return WITH_OFFSET;
                case OP_SIZE:
                case OP_GROW:
                    return WITH_ZERO;
                case OP_CONST:
                    return WITH_WORD;
                default:
                    return standsAlone(code) ? WITH_NOTHING : NO_INSTRUCTION;
            }
        }

        private static boolean standsAlone(int code) {
            switch (code) {
                case OP_UNREACHABLE:
                case OP_NOP:
                case OP_ELSE:
                case OP_END:
                case OP_RETURN:
                case OP_DROP:
                case OP_SELECT:
                case OP_EQZ:
                case OP_EQ:
                case OP_NE:
                case OP_LT_S:
                case OP_LT_U:
                case OP_GT_S:
                case OP_LE_S:
                case OP_GE_S:
                case OP_ADD:
                case OP_SUB:
                case OP_MUL:
                case OP_DIV_S:
                case OP_REM_S:
                case OP_AND:
                case OP_OR:
                case OP_XOR:
                case OP_SHL:
                case OP_SHR_S:
                case OP_SHR_U:
                    return true;
                default:
                    return false;
            }
        }

        // Reading.

        /** Reads bytes into a module, which is of use only if no fault is found, and its instructions are valid. */
        void decode(Ints bytes, WasmModule into) {
            in = bytes;
            module = into;
            module.clear();
            at = 0;
            faultKind = 0;
            faultPlace = NONE;
            for (int i = 0; i < HEAD.length; i++) {
                exact(HEAD[i]);
            }
            int latest = 0;
            for (int i = 0; i < FAR && isGood() && at < in.size; i++) {
                int number = nextByte();
                if (!isSection(number) || number <= latest) {
                    refuse(at - 1);
                }
                latest = number;
                long size = number();
                int begin = at;
                if (isGood()) {
                    section(number);
                }
                if (at - begin != size) {
                    refuse(at);
                }
            }
            if (isGood()) {
                holdTogether();
            }
        }

        /** Notes where the module that was read is not valid, if it is not. */
        void noteInvalid(int place) {
            faultKind = place == NONE ? 0 : 3;
            faultPlace = place;
        }

        private void refuse(int place) {
            if (faultKind == 0) {
                faultKind = 1;
                faultPlace = place;
            }
        }

        private boolean isGood() {
            return faultKind == 0;
        }

        private int nextByte() {
            if (at < 0 || at >= in.size || at >= in.row.length) {
                if (faultKind == 0) {
                    faultKind = 1;
                    faultPlace = in.size;
                }
                return 0;
            }
            at++;
            return in.row[at - 1];
        }

        private void exact(int due) {
            if (isGood() && nextByte() != due) {
                refuse(at - 1);
            }
        }

        /** A number without a sign; 0 with a fault. */
        private long number() {
            int begin = at;
            long number = 0;
            for (int i = 0; i < 5 && isGood(); i++) {
                long group = nextByte();
                number |= (group & 127) << 7 * i;
                if (isGood() && group < 128 && number <= 0xffffffffL) {
                    return number;
                }
                if (group < 128) {
                    refuse(begin);
                }
            }
            refuse(begin);
            return 0;
        }

        private int limited(int most) {
            int begin = at;
            long number = number();
            if (number > most) {
                refuse(begin);
            }
            return isGood() ? (int) number : 0;
        }

        /** A number with a sign; 0 with a fault. */
        private int signed() {
            int begin = at;
            long number = 0;
            for (int i = 0; i < 5 && isGood(); i++) {
                long group = nextByte();
                number |= (group & 127) << 7 * i;
                if (isGood() && group < 128) {
                    int unused = 64 - 7 * (i + 1);
                    number = number << unused >> unused;
                    if (number != (int) number) {
                        refuse(begin);
                    }
                    return (int) number;
                }
            }
            refuse(begin);
            return 0;
        }

        private long name() {
            long name = 0;
            nameLength = limited(MOST_NAME);
            for (int i = 0; i < nameLength && isGood(); i++) {
                name = name << 8 | nextByte();
            }
            return name;
        }

        private static boolean isSection(int number) {
            return number >= SECTION_TYPES && number <= SECTION_MEMORY || number == SECTION_EXPORTS
                    || number == SECTION_ELEMENTS || number == SECTION_CODES;
        }

        private void section(int number) {
            switch (number) {
                case SECTION_TYPES:
                    readTypes();
                    break;
                case SECTION_IMPORTS:
                    readImports();
                    break;
                case SECTION_FUNCTIONS:
                    readFunctions();
                    break;
                case SECTION_TABLE:
                    limitedOne();
                    exact(112);
                    exact(0);
                    module.tableSize = limited(MOST_ENTRIES);
                    break;
                case SECTION_MEMORY:
                    limitedOne();
                    exact(1);
                    module.pagesAtLeast = (int) Math.min(number(), FAR);
                    module.pagesAtMost = limited(MOST_PAGES);
                    break;
                case SECTION_EXPORTS:
                    readExports();
                    break;
                case SECTION_ELEMENTS:
                    readElements();
                    break;
                default:
                    readCodes();
                    break;
            }
        }

        /** The number of a row that has one thing always. */
        private void limitedOne() {
            int begin = at;
            if (number() != 1) {
                refuse(begin);
            }
        }

        private void readTypes() {
            int many = limited(MOST_TYPES);
            for (int i = 0; i < many && isGood(); i++) {
                exact(96);
                int parameters = limited(MOST_PARAMETERS);
                for (int k = 0; k < parameters && isGood(); k++) {
                    exact(127);
                }
                int values = limited(1);
                if (values > 0) {
                    exact(127);
                }
                module.types.add(2 * parameters + values);
            }
        }

        private void readImports() {
            int many = limited(MOST_IMPORTS);
            for (int i = 0; i < many && isGood(); i++) {
                boolean isHouse = name() == 'h' && nameLength == 1;
                long name = name();
                module.importHost.add(isHouse ? hostNamed(name, nameLength) : NONE);
                exact(0);
                module.importType.add((int) number());
            }
        }

        private static int hostNamed(long name, int length) {
            for (int h = 0; h < HOST_FUNCTIONS; h++) {
                String known = WasmModule.hostName(h);
                long signs = 0;
                for (int i = 0; i < known.length(); i++) {
                    signs = signs << 8 | known.charAt(i);
                }
                if (signs == name && known.length() == length) {
                    return h;
                }
            }
            return NONE;
        }

        private void readFunctions() {
            int many = limited(MOST_FUNCTIONS - module.importCount());
            for (int i = 0; i < many && isGood(); i++) {
                module.functionType.add((int) number());
            }
        }

        private void readExports() {
            int many = limited(MOST_EXPORTS);
            for (int i = 0; i < many && isGood(); i++) {
                long name = name();
                int length = nameLength;
                exact(0);
                module.addExport(name, length, (int) number());
            }
        }

        private void readElements() {
            int many = limited(MOST_ELEMENTS);
            for (int i = 0; i < many && isGood(); i++) {
                exact(0);
                exact(OP_CONST);
                module.elementPlace.add(signed());
                exact(OP_END);
                int functions = limited(MOST_ENTRIES - module.elementFunction.size);
                module.elementSize.add(functions);
                for (int k = 0; k < functions && isGood(); k++) {
                    module.elementFunction.add((int) number());
                }
            }
        }

        private void readCodes() {
            long many = number();
            for (int i = 0; i < FAR && i < many && isGood(); i++) {
                long size = number();
                int begin = at;
                readLocals();
                module.starts.add(module.op.size);
                readInstructions();
                if (at - begin != size) {
                    refuse(at);
                }
            }
        }

        private void readLocals() {
            long rows = number();
            int locals = 0;
            for (int i = 0; i < FAR && i < rows && isGood(); i++) {
                locals += limited(MOST_LOCALS - locals);
                exact(127);
            }
            module.locals.add(locals);
        }

        private void readInstructions() {
            int open = 0;
            for (int i = 0; i <= MOST_INSTRUCTIONS && isGood() && open >= 0; i++) {
                int begin = at;
                int code = nextByte();
                if (i >= MOST_INSTRUCTIONS || shapeOf(code) == NO_INSTRUCTION) {
                    refuse(begin);
                }
                if (shapeOf(code) == WITH_BLOCK_TYPE) {
                    open++;
                } else if (code == OP_END) {
                    open--;
                }
                if (open > MOST_BLOCKS) {
                    refuse(begin);
                }
                if (isGood()) {
                    module.op.add(code);
                    module.argument.add(readOperand(shapeOf(code)));
                }
            }
        }

        private int readOperand(int shape) {
            int with = NONE;
            switch (shape) {
                case WITH_BLOCK_TYPE:
                    with = nextByte();
                    if (with != WITH_VALUE && with != WITHOUT_VALUE) {
                        refuse(at - 1);
                    }
                    break;
                case WITH_NUMBER:
                    with = (int) number();
                    break;
                case WITH_TYPE:
                    with = (int) number();
                    exact(0);
                    break;
                case WITH_OFFSET:
                    exact(2);
                    with = (int) number();
                    break;
                case WITH_ZERO:
                    exact(0);
                    break;
                case WITH_WORD:
                    with = signed();
                    break;
                default:
                    break;
            }
            return with;
        }

        // What the sections must be to one another.

        private void holdTogether() {
            if (!importsHold()) {
                refuseSection(SECTION_IMPORTS);
            }
            for (int i = 0; i < module.ownCount(); i++) {
                if (!isType(module.functionType.get(i))) {
                    refuseSection(SECTION_FUNCTIONS);
                }
            }
            if (module.pagesAtLeast > module.pagesAtMost) {
                refuseSection(SECTION_MEMORY);
            }
            if (!exportsHold()) {
                refuseSection(SECTION_EXPORTS);
            }
            if (!elementsHold()) {
                refuseSection(SECTION_ELEMENTS);
            }
            if (module.starts.size != module.ownCount()) {
                refuseSection(SECTION_CODES);
            }
        }

        private void refuseSection(int section) {
            if (faultKind == 0) {
                faultKind = 2;
                faultPlace = section;
            }
        }

        /** Numbers of 2147483648 and more are below 0 here. */
        private boolean isType(int type) {
            return type >= 0 && type < module.types.size;
        }

        private boolean isFunction(int function) {
            return function >= 0 && function < module.functionCount();
        }

        private boolean importsHold() {
            boolean hold = true;
            for (int i = 0; i < module.importCount(); i++) {
                int type = module.importType.get(i);
                int host = module.importHost.get(i);
                hold = hold && host != NONE && isType(type) && module.types.get(type) == WasmModule.hostType(host);
            }
            return hold;
        }

        private boolean exportsHold() {
            boolean hold = true;
            for (int i = 0; i < module.exportFunction.size; i++) {
                hold = hold && isFunction(module.exportFunction.get(i));
                for (int k = 0; k < i; k++) {
                    hold = hold && (module.nameOfExport(k) != module.nameOfExport(i)
                            || module.exportLength.get(k) != module.exportLength.get(i));
                }
            }
            return hold;
        }

        private boolean elementsHold() {
            boolean hold = true;
            int entries = module.tableEntries();
            for (int i = 0; i < module.elementPlace.size; i++) {
                int place = module.elementPlace.get(i);
                hold = hold && place >= 0 && place <= entries && module.elementSize.get(i) <= entries - place;
            }
            for (int i = 0; i < module.elementFunction.size; i++) {
                hold = hold && isFunction(module.elementFunction.get(i));
            }
            return hold;
        }
    }

    /** Holds the instructions of a module against the rules, and finds where its blocks go on. */
    private static final class Checker {
        private static final int MOST_DEPTH_OF_BLOCKS = 40;
        private static final int FUNCTION_BLOCK = -1;
        private static final int HEIGHT_SHIFT = 1;
        private static final int AIM_SHIFT = 14;
        private static final int HEIGHT_MASK = 0x1fff;
        private final int[] blockOp = new int[MOST_DEPTH_OF_BLOCKS];
        private final int[] blockHeight = new int[MOST_DEPTH_OF_BLOCKS];
        private final int[] blockBegin = new int[MOST_DEPTH_OF_BLOCKS];
        private final boolean[] blockValued = new boolean[MOST_DEPTH_OF_BLOCKS];
        private final boolean[] blockDead = new boolean[MOST_DEPTH_OF_BLOCKS];
        private WasmModule module;
        private int function;
        private int start;
        private int length;
        private int blocks;
        private int height;
        private boolean isWrong;

        /** The place of the first instruction that is not valid, or NONE. Fills aims and table of the module. */
        int firstInvalid(WasmModule whole) {
            module = whole;
            module.aim.zeros(module.op.size);
            fillShapes();
            fillTable();
            for (int f = 0; f < module.ownCount(); f++) {
                function = module.importCount() + f;
                start = module.starts.get(f);
                length = module.instructionsOf(f);
                match();
                int wrong = firstWrong();
                if (wrong != NONE) {
                    return 10000 * function + wrong;
                }
            }
            return NONE;
        }

        private void fillShapes() {
            module.shapes.clear();
            for (int f = 0; f < module.functionCount(); f++) {
                module.shapes.add(module.types.get(module.typeNumber(f)));
            }
        }

        private void fillTable() {
            module.table.clear();
            for (int i = 0; i < module.tableEntries(); i++) {
                module.table.add(NONE);
            }
            int next = 0;
            for (int e = 0; e < module.elementPlace.size; e++) {
                for (int i = 0; i < module.elementSize.get(e); i++) {
                    module.table.set(module.elementPlace.get(e) + i, module.elementFunction.get(next));
                    next++;
                }
            }
        }

        private int codeAt(int instruction) {
            return module.op.get(start + instruction);
        }

        /** Lets each block, loop and if know its end, an if its else, and an else its end. */
        private void match() {
            blocks = 0;
            for (int i = 0; i < length; i++) {
                int code = codeAt(i);
                if (isBlock(code)) {
                    push(code, i, false);
                } else if (blocks > 0 && blocks <= MOST_DEPTH_OF_BLOCKS) {
                    int top = blocks - 1;
                    if (code == OP_ELSE) {
                        module.aim.set(start + blockBegin[top], i);
                        blockBegin[top] = i;
                    } else if (code == OP_END) {
                        module.aim.set(start + blockBegin[top], i);
                        blocks--;
                    }
                }
            }
        }

        private static boolean isBlock(int code) {
            return code == OP_BLOCK || code == OP_LOOP || code == OP_IF;
        }

        private void push(int code, int begin, boolean isValued) {
            if (blocks < 0 || blocks >= MOST_DEPTH_OF_BLOCKS) {
                isWrong = true;
                return;
            }
            blockOp[blocks] = code;
            blockBegin[blocks] = begin;
            blockValued[blocks] = isValued;
            blockHeight[blocks] = height;
            blockDead[blocks] = false;
            blocks++;
        }

        private int firstWrong() {
            blocks = 0;
            height = 0;
            isWrong = false;
            push(FUNCTION_BLOCK, NONE, givesValue(module.typeOfFunction(function)));
            for (int i = 0; i < length; i++) {
                look(i, codeAt(i), module.argument.get(start + i));
                if (isWrong) {
                    return i;
                }
            }
            return NONE;
        }

        private static boolean givesValue(int type) {
            return (type & 1) != 0;
        }

        private void take(int many) {
            int top = blocks - 1;
            if (top < 0 || top >= MOST_DEPTH_OF_BLOCKS) {
                isWrong = true;
                return;
            }
            for (int i = 0; i < many; i++) {
                if (height > blockHeight[top]) {
                    height--;
                } else if (!blockDead[top]) {
                    isWrong = true;
                }
            }
        }

        private void takeAndPut(int taken, int put) {
            take(taken);
            height += put;
        }

        private void die() {
            int top = blocks - 1;
            if (top >= 0 && top < MOST_DEPTH_OF_BLOCKS) {
                blockDead[top] = true;
                height = blockHeight[top];
            }
        }

        private void needs(boolean stands) {
            isWrong = isWrong || !stands;
        }

        private void look(int at, int code, int with) {
            switch (code) {
                case OP_UNREACHABLE:
                    die();
                    break;
                case OP_NOP:
                    break;
                case OP_BLOCK:
                case OP_LOOP:
                    push(code, at, with == WITH_VALUE);
                    break;
                case OP_IF:
                    take(1);
                    push(code, at, with == WITH_VALUE);
                    break;
                case OP_ELSE:
                    lookAtElse();
                    break;
                case OP_END:
                    lookAtEnd();
                    break;
                case OP_BR:
                    lookAtBranch(at, with);
                    die();
                    break;
                case OP_BR_IF:
                    take(1);
                    takeAndPut(0, lookAtBranch(at, with));
                    break;
                case OP_RETURN:
                    take(module.typeOfFunction(function) & 1);
                    die();
                    break;
                case OP_CALL:
                    needs(with >= 0 && with < module.functionCount());
                    lookAtCall(module.typeOfFunction(with));
                    break;
                case OP_CALL_INDIRECT:
                    needs(module.tableSize != NONE && with >= 0 && with < module.types.size);
                    take(1);
                    lookAtCall(module.types.get(with));
                    break;
                default:
                    lookAtPlain(code, with);
                    break;
            }
        }

        private void lookAtPlain(int code, int with) {
            switch (code) {
                case OP_DROP:
                    take(1);
                    break;
                case OP_SELECT:
                    takeAndPut(3, 1);
                    break;
                case OP_GET:
                    needs(isLocal(with));
                    height++;
                    break;
                case OP_SET:
                    needs(isLocal(with));
                    take(1);
                    break;
                case OP_TEE:
                    needs(isLocal(with));
                    takeAndPut(1, 1);
                    break;
                case OP_LOAD:
                case OP_GROW:
                    needs(module.pagesAtLeast != NONE);
                    takeAndPut(1, 1);
                    break;
                case OP_STORE:
                    needs(module.pagesAtLeast != NONE);
                    take(2);
                    break;
                case OP_SIZE:
                    needs(module.pagesAtLeast != NONE);
                    height++;
                    break;
                case OP_CONST:
                    height++;
                    break;
                case OP_EQZ:
                    takeAndPut(1, 1);
                    break;
                default:
                    takeAndPut(2, 1);
                    break;
            }
        }

        private boolean isLocal(int local) {
            int all = module.parametersOf(function) + module.locals.get(function - module.importCount());
            return local >= 0 && local < all;
        }

        private void lookAtCall(int type) {
            takeAndPut(type >> 1, type & 1);
        }

        /** At else and end: just the value lies above the height, or, if dead, not more. */
        private void lookAtHeight(int top) {
            int above = height - blockHeight[top];
            int due = blockValued[top] ? 1 : 0;
            needs(above == due || blockDead[top] && above < due);
            height = blockHeight[top];
        }

        private void lookAtElse() {
            int top = blocks - 1;
            if (top < 0 || top >= MOST_DEPTH_OF_BLOCKS || blockOp[top] != OP_IF) {
                isWrong = true;
                return;
            }
            lookAtHeight(top);
            blockOp[top] = OP_ELSE;
            blockDead[top] = false;
        }

        private void lookAtEnd() {
            int top = blocks - 1;
            if (top < 0 || top >= MOST_DEPTH_OF_BLOCKS) {
                isWrong = true;
                return;
            }
            lookAtHeight(top);
            needs(blockOp[top] != OP_IF || !blockValued[top]);
            blocks--;
            height += blockValued[top] ? 1 : 0;
        }

        /** Takes the value that goes along to a block, if there is one; answers how many that are. */
        private int lookAtBranch(int at, int outwards) {
            int aimed = blocks - 1 - outwards;
            if (outwards < 0 || aimed < 0 || aimed >= MOST_DEPTH_OF_BLOCKS) {
                isWrong = true;
                return 0;
            }
            boolean isLoop = blockOp[aimed] == OP_LOOP;
            int values = blockValued[aimed] && !isLoop ? 1 : 0;
            take(values);
            int goal = isLoop ? blockBegin[aimed] + 1 : endOf(aimed) + 1;
            module.aim.set(start + at, goal << AIM_SHIFT | blockHeight[aimed] << HEIGHT_SHIFT | values);
            return values;
        }

        private int endOf(int block) {
            if (blockOp[block] == FUNCTION_BLOCK) {
                return length - 1;
            }
            int end = module.aim.get(start + blockBegin[block]);
            return module.op.get(start + end) == OP_ELSE ? module.aim.get(start + end) : end;
        }
    }

    /** What the host keeps for a run: its memory, and the cells in it. */
    private static final class Host {
        private static final int PAGE = 1024;
        private static final int FIRST_CELL = 16;
        private static final int MOST_FIELDS = 80;
        private static final int LEAST_FIELDS = 2;
        private static final int SHAPE_FUNCTION = 2;
        private byte[] memory = new byte[PAGE];
        private int pages;
        private int pagesAtMost;
        /** By place / 4: the fields of a cell in use, less than 0 for those of a freed one. */
        private final Ints fields = new Ints(64);
        /** By place / 4 of a freed cell: the one of as many fields that was freed ahead of it, or 0. */
        private final Ints freedBefore = new Ints(64);
        /** By fields: the cell that was freed latest, or 0. */
        private final Ints freedLatest = new Ints(MOST_FIELDS + 1);
        private final Ints row = new Ints(16);
        private final Ints references = new Ints(64);
        private int next;
        private int inUse;
        private int given;
        private int freed;

        void prepare(int atLeast, int atMost) {
            Arrays.fill(memory, (byte) 0);
            pages = atLeast;
            pagesAtMost = atMost;
            room();
            fields.clear();
            freedBefore.clear();
            freedLatest.zeros(MOST_FIELDS + 1);
            next = FIRST_CELL;
            inUse = 0;
            given = 0;
        }

        /** Makes the memory long enough for its pages. */
        private void room() {
            if (pages > 0 && memory.length < pages * PAGE) {
                memory = Arrays.copyOf(memory, Math.max(pages * PAGE, 2 * memory.length));
            }
        }

        int pages() {
            return pages;
        }

        /** Answers how many pages there were, or NONE if there would be too many. */
        int grow(long more) {
            if (pages + more > pagesAtMost) {
                return NONE;
            }
            int before = pages;
            pages = (int) (pages + more);
            room();
            return before;
        }

        boolean covers(long place) {
            return place >= 0 && place + 4 <= (long) pages * PAGE && place + 4 <= memory.length;
        }

        int wordAt(long place) {
            if (!covers(place)) {
                return 0;
            }
            int at = (int) place;
            return memory[at] & 255 | (memory[at + 1] & 255) << 8 | (memory[at + 2] & 255) << 16
                    | memory[at + 3] << 24;
        }

        void putWord(long place, int word) {
            if (covers(place)) {
                int at = (int) place;
                memory[at] = (byte) word;
                memory[at + 1] = (byte) (word >> 8);
                memory[at + 2] = (byte) (word >> 16);
                memory[at + 3] = (byte) (word >> 24);
            }
        }

        int field(int cell, int which) {
            return wordAt((long) cell + 8 + 4 * which);
        }

        boolean isUsed(int word) {
            return isPlace(word) && fields.get(word >> 2) > 0;
        }

        static boolean isPlace(int word) {
            return (word & 3) == 0;
        }

        /** One holder more; false if the word is broken. */
        boolean dup(int word) {
            if (!isPlace(word)) {
                return true;
            }
            if (!isUsed(word)) {
                return false;
            }
            putWord(word, wordAt(word) + 1);
            return true;
        }

        /** One holder less, and all is freed that has none then; false if a word is broken. */
        boolean drop(int word) {
            freed = 0;
            row.clear();
            if (!isPlace(word)) {
                return true;
            }
            boolean isGood = lessen(word);
            for (int i = 0; isGood && i < FAR && i < row.size; i++) {
                int cell = row.get(i);
                int many = fields.get(cell >> 2);
                for (int f = 0; isGood && f < many; f++) {
                    int held = field(cell, f);
                    isGood = !isPlace(held) || lessen(held);
                }
                if (isGood) {
                    free(cell, many);
                }
            }
            return isGood;
        }

        private boolean lessen(int word) {
            if (!isUsed(word)) {
                return false;
            }
            int holders = wordAt(word) - 1;
            putWord(word, holders);
            if (holders == 0) {
                row.add(word);
            }
            return true;
        }

        private void free(int cell, int many) {
            fields.set(cell >> 2, -many);
            freedBefore.set(cell >> 2, freedLatest.get(many));
            freedLatest.set(many, cell);
            inUse--;
            freed++;
        }

        /** How many cells the latest drop has freed. */
        int freedCells() {
            return freed;
        }

        /** A new cell with one holder and words of 1 as its fields; 0 if there is no room. */
        int claim(int many, int shape) {
            int cell = freedLatest.get(many);
            if (cell != 0) {
                freedLatest.set(many, freedBefore.get(cell >> 2));
            } else {
                int end = next + 8 + 4 * many;
                int lacking = (end - pages * PAGE + PAGE - 1) / PAGE;
                if (end > pages * PAGE && grow(lacking) == NONE) {
                    return 0;
                }
                cell = next;
                next = end;
                fields.reach((cell >> 2) + 1);
                freedBefore.reach((cell >> 2) + 1);
            }
            fields.set(cell >> 2, many);
            inUse++;
            given++;
            putWord(cell, 1);
            putWord(cell + 4, 4 * many + shape);
            for (int f = 0; f < many; f++) {
                putWord(cell + 8 + 4 * f, 1);
            }
            return cell;
        }

        /** A link or pair, of these shapes; 0 if there is no room. */
        int claimTwo(int one, int other, int shape) {
            int cell = claim(2, shape);
            if (cell != 0) {
                putWord(cell + 8, one);
                putWord(cell + 12, other);
            }
            return cell;
        }

        static boolean canHold(int many) {
            return many >= LEAST_FIELDS && many <= MOST_FIELDS;
        }

        int claimFunction(int many) {
            return claim(many, SHAPE_FUNCTION);
        }

        /** The questions 4 to 7 about a run. */
        int told(int what) {
            switch (what) {
                case 4:
                    return pages;
                case 5:
                    return inUse;
                case 6:
                    return allHolders();
                default:
                    return given;
            }
        }

        private int allHolders() {
            int sum = 0;
            for (int i = 0; i < fields.size; i++) {
                if (fields.get(i) > 0) {
                    sum += wordAt(4 * i);
                }
            }
            return sum;
        }

        int cellsInUse() {
            return inUse;
        }

        /** Whether the cells in use are those that a word leads to, with just as many holders as there are. */
        boolean holdsJust(int word) {
            references.zeros(fields.size);
            row.clear();
            boolean isGood = refer(word);
            for (int i = 0; isGood && i < FAR && i < row.size; i++) {
                int cell = row.get(i);
                int many = fields.get(cell >> 2);
                for (int f = 0; isGood && f < many; f++) {
                    isGood = refer(field(cell, f));
                }
            }
            for (int i = 0; isGood && i < fields.size; i++) {
                isGood = fields.get(i) <= 0 || references.get(i) > 0 && references.get(i) == wordAt(4 * i);
            }
            return isGood;
        }

        private boolean refer(int word) {
            if (!isPlace(word)) {
                return true;
            }
            if (!isUsed(word)) {
                return false;
            }
            if (references.get(word >> 2) == 0) {
                row.add(word);
            }
            references.change(word >> 2, 1);
            return true;
        }
    }

    /** A run of an exported function: frames, their words, and the host's part. */
    private static final class Run {
        private static final int YES = 3;
        private static final int MOST_FRAMES = 80;
        private static final int AIM_SHIFT = 14;
        private static final int HEIGHT_MASK = 0x1fff;
        private final Host host = new Host();
        /** Of each frame its locals, then its stack; the frames one behind the other. */
        private final Ints words = new Ints(256);
        private final int[] frameFunction = new int[MOST_FRAMES];
        private final int[] frameAt = new int[MOST_FRAMES];
        private final int[] frameBase = new int[MOST_FRAMES];
        private final int[] frameStack = new int[MOST_FRAMES];
        private WasmModule module;
        private int export;
        private int frames;
        private int mostFrames;
        private int state;
        private int steps;
        private int word;
        private boolean isGivenBack;

        Host host() {
            return host;
        }

        int state() {
            return state;
        }

        int given() {
            return word;
        }

        int export() {
            return export;
        }

        int stepCount() {
            return steps;
        }

        /** The program of its module, or null if that was read. */
        Tree madeOf() {
            return module == null ? null : module.tree;
        }

        boolean holdsValue() {
            return state == STATE_ENDED && madeOf() != null && !isGivenBack;
        }

        void start(WasmModule whole, int which, int a, int b, int c) {
            module = whole;
            export = which;
            host.prepare(module.leastPages(), module.mostPages());
            words.clear();
            frames = 0;
            mostFrames = 0;
            state = STATE_GOING;
            steps = 0;
            word = 0;
            isGivenBack = false;
            int function = module.exportFunction.get(which);
            int many = module.parametersOf(function);
            for (int i = 0; i < many && i < MOST_ASKED; i++) {
                words.add(2 * (i == 0 ? a : i == 1 ? b : c) + 1);
            }
            enter(function);
        }

        /** Does so many steps at most; answers how many it did. */
        int advance(int most) {
            int done = 0;
            while (done < most && state == STATE_GOING) {
                int trap = act();
                done++;
                if (trap != 0) {
                    state = STATE_ENDED + trap;
                }
            }
            steps += done;
            return done;
        }

        // Questions.

        /** The questions about a run but 4 to 7. */
        int told(int what) {
            switch (what) {
                case 0:
                    return state;
                case 1:
                    return steps;
                case 2:
                    return frames;
                case 3:
                    return stackWords();
                case 8:
                    return mostFrames;
                case 9:
                    return state == STATE_GOING ? function(frames - 1) : NONE;
                case 10:
                    return state == STATE_GOING ? instruction(frames - 1) : NONE;
                default:
                    return isGivenBack ? 1 : 0;
            }
        }

        private int function(int frame) {
            return frame >= 0 && frame < MOST_FRAMES ? frameFunction[frame] : NONE;
        }

        private int instruction(int frame) {
            return frame >= 0 && frame < MOST_FRAMES ? frameAt[frame] : NONE;
        }

        private int base(int frame) {
            return frame >= 0 && frame < MOST_FRAMES ? frameBase[frame] : 0;
        }

        private int stack(int frame) {
            return frame >= 0 && frame < MOST_FRAMES ? frameStack[frame] : 0;
        }

        private int stackWords() {
            int locals = 0;
            for (int f = 0; f < frames; f++) {
                locals += stack(f) - base(f);
            }
            return words.size - locals;
        }

        int frameCount() {
            return frames;
        }

        int newestStack() {
            return frames == 0 ? 0 : words.size - stack(frames - 1);
        }

        int stackWord(int depth) {
            return words.top(depth);
        }

        /** Frames are counted from the newest one here. */
        int localCount(int frame) {
            return stack(frames - 1 - frame) - base(frames - 1 - frame);
        }

        int localWord(int frame, int local) {
            return words.get(base(frames - 1 - frame) + local);
        }

        /** Drops the value; answers how many cells were freed. */
        int takeBack() {
            isGivenBack = true;
            host.drop(word);
            return host.freedCells();
        }

        boolean standsTheTheorem() {
            if (madeOf() == null) {
                return true;
            }
            if (state == STATE_ENDED) {
                return isGivenBack ? host.cellsInUse() == 0 : host.holdsJust(word);
            }
            return state != STATE_ENDED + TRAP_BROKEN && state != STATE_ENDED + TRAP_UNREACHABLE
                    && state != STATE_ENDED + TRAP_TABLE;
        }

        // Frames.

        /** Lays a frame over the words that are its parameters. */
        private void enter(int function) {
            int own = function - module.importCount();
            if (frames < 0 || frames >= MOST_FRAMES) {
                return;
            }
            int base = words.size - module.parametersOf(function);
            for (int i = 0; i < module.locals.get(own); i++) {
                words.add(0);
            }
            frameFunction[frames] = function;
            frameAt[frames] = 0;
            frameBase[frames] = base;
            frameStack[frames] = words.size;
            frames++;
            mostFrames = Math.max(mostFrames, frames);
        }

        private void leave() {
            int type = module.typeOfFunction(function(frames - 1));
            int value = (type & 1) != 0 ? words.top(0) : 0;
            words.cut(base(frames - 1));
            frames--;
            if (frames == 0) {
                word = value;
                state = STATE_ENDED;
            } else if ((type & 1) != 0) {
                words.add(value);
            }
        }

        private void goTo(int instruction) {
            if (frames > 0 && frames <= MOST_FRAMES) {
                frameAt[frames - 1] = instruction;
            }
        }

        // Steps.

        /** Does the instruction at hand; answers the trap that ends the run, or 0. A trap leaves all as it was. */
        private int act() {
            int own = function(frames - 1) - module.importCount();
            int at = instruction(frames - 1);
            int place = module.starts.get(own) + at;
            int code = module.op.get(place);
            int with = module.argument.get(place);
            if (code <= OP_RETURN) {
                return code == OP_UNREACHABLE ? TRAP_UNREACHABLE : actBlock(code, own, at, module.aim.get(place));
            }
            int trap = 0;
            boolean isCall = code == OP_CALL || code == OP_CALL_INDIRECT;
            if (isCall) {
                goTo(at + 1);
                int called = code == OP_CALL ? with : entry(with);
                int above = code == OP_CALL ? 0 : 1;
                int asked = module.hostOf(called);
                trap = called == NONE ? TRAP_TABLE : asked == NONE ? invoke(called, above)
                        : invokeHost(asked, above);
            } else if (code >= OP_EQZ) {
                trap = actNumbers(code);
            } else {
                trap = actPlain(code, with);
            }
            if (trap != 0) {
                goTo(at);
            } else if (!isCall) {
                goTo(at + 1);
            }
            return trap;
        }

        private int actBlock(int code, int own, int at, int aim) {
            switch (code) {
                case OP_IF:
                    goTo(words.pop() != 0 ? at + 1 : aim + 1);
                    break;
                case OP_ELSE:
                    goTo(aim + 1);
                    break;
                case OP_BR:
                    branch(own, aim);
                    break;
                case OP_BR_IF:
                    if (words.pop() != 0) {
                        branch(own, aim);
                    } else {
                        goTo(at + 1);
                    }
                    break;
                case OP_RETURN:
                    leave();
                    break;
                default:
                    goTo(at + 1);
                    if (at + 1 >= module.instructionsOf(own)) {
                        leave();
                    }
                    break;
            }
            return 0;
        }

        private void branch(int own, int aim) {
            int goal = aim >> AIM_SHIFT;
            int height = stack(frames - 1) + (aim >> 1 & HEIGHT_MASK);
            int value = words.top(0);
            if (goal >= module.instructionsOf(own)) {
                leave();
                return;
            }
            words.cut(height);
            if ((aim & 1) != 0) {
                words.add(value);
            }
            goTo(goal);
        }

        private int actPlain(int code, int with) {
            int local = base(frames - 1) + with;
            switch (code) {
                case OP_DROP:
                    words.pop();
                    break;
                case OP_SELECT:
                    int test = words.pop();
                    int second = words.pop();
                    int first = words.pop();
                    words.add(test != 0 ? first : second);
                    break;
                case OP_GET:
                    words.add(words.get(local));
                    break;
                case OP_SET:
                    words.set(local, words.pop());
                    break;
                case OP_TEE:
                    words.set(local, words.top(0));
                    break;
                case OP_CONST:
                    words.add(with);
                    break;
                default:
                    return actMemory(code, with);
            }
            return 0;
        }

        private static long unsigned(int word) {
            return word & 0xffffffffL;
        }

        private int actMemory(int code, int with) {
            if (code == OP_SIZE) {
                words.add(host.pages());
            } else if (code == OP_GROW) {
                words.add(host.grow(unsigned(words.pop())));
            } else if (code == OP_LOAD) {
                long place = unsigned(words.top(0)) + unsigned(with);
                if (!host.covers(place)) {
                    return TRAP_MEMORY;
                }
                words.pop();
                words.add(host.wordAt(place));
            } else {
                long place = unsigned(words.top(1)) + unsigned(with);
                if (!host.covers(place)) {
                    return TRAP_MEMORY;
                }
                int word = words.pop();
                words.pop();
                host.putWord(place, word);
            }
            return 0;
        }

        private int actNumbers(int code) {
            if (code == OP_EQZ) {
                words.add(words.pop() == 0 ? 1 : 0);
                return 0;
            }
            int right = words.top(0);
            int left = words.top(1);
            boolean divides = code == OP_DIV_S || code == OP_REM_S;
            if (divides && right == 0 || code == OP_DIV_S && right == -1 && left == Integer.MIN_VALUE) {
                return TRAP_DIVISION;
            }
            words.pop();
            words.pop();
            words.add(divides ? divided(code, left, right) : code < OP_ADD ? compared(code, left, right)
                    : combined(code, left, right));
            return 0;
        }

        private static int divided(int code, int left, int right) {
            if (right == 0) {
                return 0;
            }
            return code == OP_DIV_S ? left / right : left % right;
        }

        private static int compared(int code, int left, int right) {
            boolean holds;
            switch (code) {
                case OP_EQ:
                    holds = left == right;
                    break;
                case OP_NE:
                    holds = left != right;
                    break;
                case OP_LT_S:
                    holds = left < right;
                    break;
                case OP_LT_U:
                    holds = unsigned(left) < unsigned(right);
                    break;
                case OP_GT_S:
                    holds = left > right;
                    break;
                case OP_LE_S:
                    holds = left <= right;
                    break;
                default:
                    holds = left >= right;
                    break;
            }
            return holds ? 1 : 0;
        }

        private static int combined(int code, int left, int right) {
            switch (code) {
                case OP_ADD:
                    return left + right;
                case OP_SUB:
                    return left - right;
                case OP_MUL:
                    return left * right;
                case OP_AND:
                    return left & right;
                case OP_OR:
                    return left | right;
                case OP_XOR:
                    return left ^ right;
                case OP_SHL:
                    return left << right;
                case OP_SHR_S:
                    return left >> right;
                default:
                    return left >>> right;
            }
        }

        // Calls.

        /** The function that the topmost word stands for in the table, if it is of a type; otherwise NONE. */
        private int entry(int type) {
            int entry = words.top(0);
            int called = entry >= 0 && entry < module.table.size ? module.table.get(entry) : NONE;
            return called != NONE && module.typeOfFunction(called) == module.types.get(type) ? called : NONE;
        }

        /** Calls an own function; words above its parameters are taken away first, if there is no trap. */
        private int invoke(int called, int above) {
            if (frames >= MOST_FRAMES) {
                return TRAP_DEEP;
            }
            words.cut(words.size - above);
            enter(called);
            return 0;
        }

        private int invokeHost(int asked, int above) {
            int latest = words.top(above);
            int given = 0;
            switch (asked) {
                case HOST_DUP:
                    if (!host.dup(latest)) {
                        return TRAP_BROKEN;
                    }
                    given = latest;
                    break;
                case HOST_DROP:
                    if (!host.drop(latest)) {
                        return TRAP_BROKEN;
                    }
                    break;
                case HOST_ROOM:
                    if (!Host.canHold(latest)) {
                        return TRAP_BROKEN;
                    }
                    given = host.claimFunction(latest);
                    break;
                default:
                    given = host.claimTwo(words.top(above + 1), latest, asked == HOST_LINK ? 0 : 1);
                    break;
            }
            boolean isClaim = asked != HOST_DUP && asked != HOST_DROP;
            if (isClaim && given == 0) {
                return TRAP_MEMORY;
            }
            words.cut(words.size - above - (WasmModule.hostType(asked) >> 1));
            if (asked != HOST_DROP) {
                words.add(given);
            }
            return 0;
        }
    }
}
