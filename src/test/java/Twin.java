import java.util.ArrayList;
import java.util.List;
import java.util.NoSuchElementException;

/**
 * The face anew: a second program, written from the document apart from the class and in another way, against which the
 * class is held by TwinTest. It is plain and slow.
 */
final class Twin {
    private String text = "";
    private final List<List<TwinText.Definition>> programs = new ArrayList<>();
    private final List<TwinModule> modules = new ArrayList<>();
    private final List<TwinRun> runs = new ArrayList<>();
    private String output = "";
    private List<Integer> bytes = new ArrayList<>();
    private TwinText.Fault readFault;
    private int begun;
    private int most;

    private static <T> T at(List<T> all, int number) {
        if (number < 0 || number >= all.size()) {
            throw new IndexOutOfBoundsException();
        }
        return all.get(number);
    }

    private static void need(boolean isInRange) {
        if (!isInRange) {
            throw new IllegalArgumentException();
        }
    }

    private static void can(boolean stands) {
        if (!stands) {
            throw new IllegalStateException();
        }
    }

    private static void stands(boolean there) {
        if (!there) {
            throw new NoSuchElementException();
        }
    }

    // The text, programs.

    public int type(long a, long b, long c, long d) {
        StringBuilder more = new StringBuilder();
        for (long one : new long[] {a, b, c, d}) {
            for (int i = 7; i >= 0; i--) {
                char sign = (char) (one >> 8 * i & 255);
                more.append(sign == 0 ? "" : sign);
            }
        }
        return put(more.toString());
    }

    private int put(String more) {
        can(text.length() + more.length() <= 800);
        text += more;
        return text.length();
    }

    public int piece(int which) {
        need(which >= 0 && which <= 7);
        return put(Kit.PIECES[which]);
    }

    public int clearText() {
        int before = text.length();
        text = "";
        return before;
    }

    private TwinText.Fault textFault() {
        try {
            TwinTypes.findAll(TwinText.read(text));
            return null;
        } catch (TwinText.Fault fault) {
            return fault;
        }
    }

    public int faultKind() {
        TwinText.Fault fault = textFault();
        return fault == null ? 0 : fault.kind;
    }

    public int faultPlace() {
        TwinText.Fault fault = textFault();
        return fault == null ? -1 : fault.place;
    }

    public int load() {
        can(textFault() == null && programs.size() < 6);
        List<TwinText.Definition> program = TwinText.read(text);
        TwinTypes.findAll(program);
        programs.add(program);
        text = "";
        return programs.size() - 1;
    }

    public int definitions(int program) {
        return at(programs, program).size();
    }

    private TwinText.Definition definition(int program, int definition) {
        return at(at(programs, program), definition);
    }

    public int parameters(int program, int definition) {
        return definition(program, definition).parameters.size();
    }

    private int write(String written) {
        output = written;
        return written.length();
    }

    public int typeOf(int program, int definition) {
        return write(TwinTypes.written(definition(program, definition).type));
    }

    public int output(int index) {
        return index >= 0 && index < output.length() ? output.charAt(index) : -1;
    }

    // The meaning.

    private static void needNumbers(int many, int... numbers) {
        for (int i = 0; i < many; i++) {
            need(numbers[i] >= -1073741824 && numbers[i] <= 1073741823);
        }
    }

    public int mean(int program, int definition, int a, int b, int c) {
        TwinText.Definition one = definition(program, definition);
        can(TwinTypes.canBeAsked(one));
        needNumbers(one.parameters.size(), a, b, c);
        TwinMeaning meaning = TwinMeaning.of(one, a, b, c);
        begun = meaning.begun;
        most = meaning.most;
        if (meaning.how == TwinMeaning.VALUE) {
            write(meaning.written(TwinTypes.result(one)));
        }
        return meaning.how;
    }

    public int meant(int what) {
        need(what == 0 || what == 1);
        return what == 0 ? begun : most;
    }

    // Making, modules.

    public int make(int program, int level) {
        List<TwinText.Definition> definitions = at(programs, program);
        need(level == 0 || level == 1);
        can(modules.size() < 8);
        modules.add(TwinMaker.make(definitions, level));
        return modules.size() - 1;
    }

    public int moduleAt(int module, int what) {
        TwinModule one = at(modules, module);
        need(what >= 0 && what <= 8);
        long[] all = {one.types.size(), one.imports.size(), one.functions.size(), one.table == null ? 0 : one.table,
            one.exports.size(), TwinModule.written(one).size(), one.made == null ? 0 : 1,
            one.memory == null ? 0 : one.memory.atLeast(), one.memory == null ? 0 : one.memory.atMost()};
        return (int) all[what];
    }

    public int functionAt(int module, int function, int what) {
        TwinModule one = at(modules, module);
        if (function < 0 || function >= one.functionCount()) {
            throw new IndexOutOfBoundsException();
        }
        need(what >= 0 && what <= 3);
        if (what < 2) {
            return what == 0 ? (int) one.typeNumber(function) : one.typeOf(function).parameters();
        }
        if (function < one.imports.size()) {
            return 0;
        }
        TwinModule.Code code = one.codeOf(function);
        return what == 2 ? code.locals() : code.ops().size();
    }

    public int opAt(int module, int function, int instruction, int what) {
        TwinModule one = at(modules, module);
        TwinModule.Code code = at(one.codes, function < 0 ? -1 : function - one.imports.size());
        TwinModule.Op op = at(code.ops(), instruction);
        need(what == 0 || what == 1);
        return what == 0 ? op.code() : (int) op.with();
    }

    public int countOf(int module, int code) {
        TwinModule one = at(modules, module);
        need(code >= 0 && code <= 255);
        return (int) one.codes.stream().flatMap(each -> each.ops().stream()).filter(op -> op.code() == code).count();
    }

    // Bytes.

    public int bytes(long eight, int many) {
        need(many >= 1 && many <= 8);
        can(bytes.size() + many <= 20000);
        for (int i = many - 1; i >= 0; i--) {
            bytes.add((int) (eight >> 8 * i & 255));
        }
        return bytes.size();
    }

    public int write(int module) {
        List<Integer> written = TwinModule.written(at(modules, module));
        can(written.size() <= 20000);
        bytes = new ArrayList<>(written);
        return bytes.size();
    }

    public int byteAt(int index) {
        return index >= 0 && index < bytes.size() ? bytes.get(index) : -1;
    }

    public int setByte(int index, int value) {
        at(bytes, index);
        need(value >= 0 && value <= 255);
        return bytes.set(index, value);
    }

    public int cutBytes(int many) {
        int before = bytes.size();
        need(many >= 0 && many <= before);
        bytes.subList(many, before).clear();
        return before;
    }

    public int read() {
        can(modules.size() < 8);
        readFault = null;
        try {
            TwinModule module = TwinReader.read(bytes);
            TwinValid.hold(module);
            modules.add(module);
            return modules.size() - 1;
        } catch (TwinText.Fault fault) {
            readFault = fault;
            return -1;
        }
    }

    public int fault(boolean isKind) {
        if (readFault == null) {
            return isKind ? 0 : -1;
        }
        return isKind ? readFault.kind : readFault.place;
    }

    public boolean same(int one, int other) {
        return at(modules, one).whole().equals(at(modules, other).whole());
    }

    public int clearModules() {
        int before = modules.size();
        modules.clear();
        runs.clear();
        return before;
    }

    // Runs.

    public int begin(int module, int export, int a, int b, int c) {
        TwinModule one = at(modules, module);
        int function = (int) at(one.exports, export).function();
        int many = one.typeOf(function).parameters();
        can(many <= 3 && runs.size() < 6 && function >= one.imports.size());
        can(one.made == null || TwinTypes.canBeAsked(one.made.get(export)));
        needNumbers(many, a, b, c);
        runs.add(new TwinRun(one, export, a, b, c));
        return runs.size() - 1;
    }

    public int step(int run, int steps) {
        TwinRun one = at(runs, run);
        need(steps >= 1 && steps <= 20000);
        can(one.state == TwinRun.GOING);
        return one.advance(steps);
    }

    public int runAt(int run, int what) {
        TwinRun one = at(runs, run);
        need(what >= 0 && what <= 11);
        boolean goes = one.state == TwinRun.GOING;
        switch (what) {
            case 0:
                return one.state;
            case 1:
                return one.steps;
            case 2:
                return one.frames.size();
            case 3:
                return one.frames.stream().mapToInt(frame -> frame.stack.size()).sum();
            case 4:
                return one.pages;
            case 5:
                return one.cellsInUse();
            case 6:
                return one.holders();
            case 7:
                return one.given;
            case 8:
                return one.mostFrames;
            case 9:
                return goes ? one.newest().function : -1;
            case 10:
                return goes ? one.newest().at : -1;
            default:
                return one.isGivenBack ? 1 : 0;
        }
    }

    public int word(int run) {
        TwinRun one = at(runs, run);
        stands(one.state == TwinRun.ENDED);
        return one.word;
    }

    private TwinRun holding(int run) {
        TwinRun one = at(runs, run);
        stands(one.state == TwinRun.ENDED && !one.isGivenBack && one.module.made != null);
        return one;
    }

    public int value(int run) {
        TwinRun one = holding(run);
        return write(one.written(TwinTypes.result(one.module.made.get(one.export))));
    }

    public int giveBack(int run) {
        return holding(run).giveBack();
    }

    public int stackAt(int run, int depth) {
        TwinRun one = at(runs, run);
        List<Integer> stack = one.frames.isEmpty() ? List.of() : one.newest().stack;
        stands(depth >= 0 && depth < stack.size());
        return stack.get(stack.size() - 1 - depth);
    }

    public int localAt(int run, int frame, int local) {
        TwinRun one = at(runs, run);
        stands(frame >= 0 && frame < one.frames.size());
        List<Integer> locals = one.frames.get(one.frames.size() - 1 - frame).locals;
        stands(local >= 0 && local < locals.size());
        return locals.get(local);
    }

    public int memoryAt(int run, int place) {
        TwinRun one = at(runs, run);
        need(one.covers(place));
        return one.load(place);
    }

    public int dropRun(int run) {
        at(runs, run);
        runs.remove(run);
        return runs.size();
    }

    // Second ways.

    public int agree(int program, int definition, int level, int a, int b, int c) {
        TwinText.Definition one = definition(program, definition);
        can(TwinTypes.canBeAsked(one));
        need(level == 0 || level == 1);
        needNumbers(one.parameters.size(), a, b, c);
        TwinMeaning meaning = TwinMeaning.of(one, a, b, c);
        TwinRun run = new TwinRun(TwinMaker.make(programs.get(program), level), definition, a, b, c);
        run.advance(20000);
        if (meaning.how == TwinMeaning.BOUND || run.state == TwinRun.GOING || run.state == 4 || run.state == 6) {
            return 2;
        }
        if (meaning.how == TwinMeaning.DIVISION || run.state != TwinRun.ENDED) {
            return meaning.how == TwinMeaning.DIVISION && run.state == 3 ? 1 : 0;
        }
        return meaning.written(TwinTypes.result(one)).equals(run.written(TwinTypes.result(one))) ? 1 : 0;
    }

    public int errors() {
        int count = 0;
        for (TwinModule module : modules) {
            try {
                TwinValid.hold(module);
                count += TwinReader.read(TwinModule.written(module)).whole().equals(module.whole()) ? 0 : 1;
            } catch (TwinText.Fault fault) {
                count++;
            }
        }
        for (TwinRun run : runs) {
            boolean isMade = run.module.made != null;
            boolean ended = run.state == TwinRun.ENDED;
            boolean isWrong = run.state == 2 || run.state == 5 || run.state == 7
                || ended && (run.isGivenBack ? run.cellsInUse() != 0 : isMade && !run.holdsJust());
            count += isMade && isWrong ? 1 : 0;
        }
        return count;
    }

    public int checksum() {
        int sum = 17;
        for (char sign : output.toCharArray()) {
            sum = 31 * sum + sign;
        }
        return sum;
    }

    public double meanSteps() {
        long sum = runs.stream().mapToLong(run -> run.steps).sum();
        return runs.isEmpty() ? 0.0 : (double) sum / (double) runs.size();
    }

    public float countedShare(int module) {
        TwinModule one = at(modules, module);
        int all = 0;
        int counted = 0;
        for (TwinModule.Code code : one.codes) {
            for (TwinModule.Op op : code.ops()) {
                all++;
                boolean isHost = op.code() == 16 && op.with() < one.imports.size();
                String name = isHost ? one.imports.get((int) op.with()).name() : "";
                counted += name.equals("dup") || name.equals("drop") ? 1 : 0;
            }
        }
        return all == 0 ? 0.0f : (float) counted / (float) all;
    }
}
