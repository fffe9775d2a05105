import java.util.ArrayDeque;
import java.util.ArrayList;
import java.util.Deque;
import java.util.HashMap;
import java.util.HashSet;
import java.util.List;
import java.util.Map;
import java.util.Set;
import java.util.TreeMap;

/** Section 8 anew: a run with its frames and the host's cells. Blocks are found as they are met. */
final class TwinRun {
    static final int GOING = 0;
    static final int ENDED = 1;

    /** A trap. */
    private static final class Trap extends RuntimeException {
        private static final long serialVersionUID = 1;
        final int which;

        Trap(int which) {
            super(null, null, false, false);
            this.which = which;
        }
    }

    /** A block that is open: where its first instruction stands, and how high the stack was. */
    private record Block(int code, int first, int height, boolean hasValue) {
    }

    static final class Frame {
        final int function;
        final List<Integer> locals = new ArrayList<>();
        final List<Integer> stack = new ArrayList<>();
        private final Deque<Block> blocks = new ArrayDeque<>();
        int at;

        Frame(int function) {
            this.function = function;
        }

        private int pop() {
            return stack.remove(stack.size() - 1);
        }

        private int top(int depth) {
            return stack.get(stack.size() - 1 - depth);
        }

        private void push(int word) {
            stack.add(word);
        }
    }

    final TwinModule module;
    final int export;
    /** The newest one is the last one. */
    final List<Frame> frames = new ArrayList<>();
    int state;
    int steps;
    int mostFrames = 1;
    int word;
    boolean isGivenBack;
    int pages;
    private final Map<Integer, Integer> memory = new HashMap<>();
    private final Map<Integer, Integer> table = new HashMap<>();
    /** By place: how many fields a cell in use has. */
    private final Map<Integer, Integer> cells = new TreeMap<>();
    private final Map<Integer, Deque<Integer>> freed = new HashMap<>();
    private int behindCells = 16;
    int given;

    TwinRun(TwinModule module, int export, int... numbers) {
        this.module = module;
        this.export = export;
        pages = module.memory == null ? 0 : (int) module.memory.atLeast();
        for (TwinModule.Element element : module.elements) {
            for (int i = 0; i < element.functions().size(); i++) {
                table.put((int) element.place() + i, (int) (long) element.functions().get(i));
            }
        }
        int function = (int) module.exports.get(export).function();
        Frame frame = newFrame(function);
        for (int i = 0; i < module.typeOf(function).parameters(); i++) {
            frame.locals.set(i, 2 * numbers[i] + 1);
        }
        frames.add(frame);
    }

    private Frame newFrame(int function) {
        Frame frame = new Frame(function);
        int locals = module.typeOf(function).parameters() + module.codeOf(function).locals();
        for (int i = 0; i < locals; i++) {
            frame.locals.add(0);
        }
        return frame;
    }

    int advance(int most) {
        int done = 0;
        while (done < most && state == GOING) {
            done++;
            try {
                step(newest());
            } catch (Trap trap) {
                state = 1 + trap.which;
            }
        }
        steps += done;
        return done;
    }

    Frame newest() {
        return frames.get(frames.size() - 1);
    }

    private static long unsigned(long word) {
        return word & 0xffffffffL;
    }

    // Memory.

    boolean covers(long place) {
        return place >= 0 && place + 4 <= 1024L * pages;
    }

    int load(long place) {
        if (!covers(place)) {
            throw new Trap(3);
        }
        int all = 0;
        for (int i = 3; i >= 0; i--) {
            all = all * 256 + memory.getOrDefault((int) place + i, 0);
        }
        return all;
    }

    private void store(long place, int stored) {
        if (!covers(place)) {
            throw new Trap(3);
        }
        for (int i = 0; i < 4; i++) {
            memory.put((int) place + i, stored >>> 8 * i & 255);
        }
    }

    private boolean grow(long more) {
        boolean can = module.memory != null && pages + more <= module.memory.atMost();
        pages += can ? (int) more : 0;
        return can;
    }

    // Cells.

    private int use(int cell) {
        if (!cells.containsKey(cell)) {
            throw new Trap(6);
        }
        return cell;
    }

    /** One holder less; whether it was the last one. */
    private boolean lessen(int cell) {
        int holders = load(use(cell)) - 1;
        store(cell, holders);
        return holders == 0;
    }

    private void drop(int dropped) {
        if (dropped % 4 != 0) {
            return;
        }
        Deque<Integer> row = new ArrayDeque<>();
        if (lessen(dropped)) {
            row.add(dropped);
        }
        while (!row.isEmpty()) {
            int cell = row.peek();
            for (int i = 0; i < cells.get(cell); i++) {
                int field = load(cell + 8 + 4 * i);
                if (field % 4 == 0 && lessen(field)) {
                    row.add(field);
                }
            }
            freed.computeIfAbsent(cells.remove(cell), many -> new ArrayDeque<>()).push(cell);
            row.remove();
        }
    }

    private int newCell(int shape, List<Integer> fields) {
        Deque<Integer> free = freed.computeIfAbsent(fields.size(), many -> new ArrayDeque<>());
        int cell = behindCells;
        if (!free.isEmpty()) {
            cell = free.pop();
        } else {
            int end = cell + 8 + 4 * fields.size();
            int lacking = Math.max(0, (end - 1024 * pages + 1023) / 1024);
            if (lacking > 0 && !grow(lacking)) {
                throw new Trap(3);
            }
            behindCells = end;
        }
        cells.put(cell, fields.size());
        given++;
        store(cell, 1);
        store(cell + 4, 4 * fields.size() + shape);
        for (int i = 0; i < fields.size(); i++) {
            store(cell + 8 + 4 * i, fields.get(i));
        }
        return cell;
    }

    int cellsInUse() {
        return cells.size();
    }

    int holders() {
        return cells.keySet().stream().mapToInt(this::load).sum();
    }

    /** Gives the value back. */
    int giveBack() {
        int before = cells.size();
        isGivenBack = true;
        drop(word);
        return before - cells.size();
    }

    /** Whether all cells in use belong to the value, with just the holders that there are. */
    boolean holdsJust() {
        Map<Integer, Integer> holders = new HashMap<>();
        Set<Integer> seen = new HashSet<>();
        Deque<Integer> row = new ArrayDeque<>(List.of(word));
        while (!row.isEmpty()) {
            int one = row.remove();
            if (one % 4 == 0) {
                holders.merge(one, 1, Integer::sum);
                int fields = seen.add(one) ? cells.getOrDefault(one, 0) : 0;
                for (int i = 0; i < fields; i++) {
                    row.add(load(one + 8 + 4 * i));
                }
            }
        }
        Map<Integer, Integer> stored = new HashMap<>();
        cells.keySet().forEach(cell -> stored.put(cell, load(cell)));
        return stored.equals(holders);
    }

    // Steps.

    private void step(Frame frame) {
        List<TwinModule.Op> ops = module.codeOf(frame.function).ops();
        TwinModule.Op op = ops.get(frame.at);
        switch (op.code()) {
            case 0:
                throw new Trap(1);
            case 1:
                frame.at++;
                break;
            case 2: case 3:
                open(frame, op);
                frame.at++;
                break;
            case 4:
                choose(frame, op, ops);
                break;
            case 5:
                frame.blocks.pop();
                frame.at = behindEnd(ops, frame.at + 1);
                break;
            case 11:
                if (frame.blocks.isEmpty()) {
                    leave(frame);
                } else {
                    frame.blocks.pop();
                    frame.at++;
                }
                break;
            case 12:
                branch(frame, (int) op.with(), ops);
                break;
            case 13:
                if (frame.pop() != 0) {
                    branch(frame, (int) op.with(), ops);
                } else {
                    frame.at++;
                }
                break;
            case 15:
                leave(frame);
                break;
            case 16:
                call(frame, (int) op.with(), 0);
                break;
            case 17:
                callByTable(frame, module.types.get((int) op.with()));
                break;
            default:
                plain(frame, op);
                frame.at++;
                break;
        }
    }

    private static void open(Frame frame, TwinModule.Op op) {
        frame.blocks.push(new Block(op.code(), frame.at + 1, frame.stack.size(), op.with() == 127));
    }

    private static void choose(Frame frame, TwinModule.Op op, List<TwinModule.Op> ops) {
        if (frame.pop() != 0) {
            open(frame, op);
            frame.at++;
            return;
        }
        open(frame, op);
        int behind = frame.at + 1;
        for (int inner = 0; inner > 0 || ops.get(behind).code() != 5; behind++) {
            int code = ops.get(behind).code();
            if (code == 11 && inner == 0) {
                frame.blocks.pop();
                break;
            }
            inner += code >= 2 && code <= 4 ? 1 : code == 11 ? -1 : 0;
        }
        frame.at = behind + 1;
    }

    /** Behind the end of the block in which an instruction stands. */
    private static int behindEnd(List<TwinModule.Op> ops, int from) {
        int open = 1;
        int at = from;
        while (open > 0) {
            int code = ops.get(at).code();
            open += code >= 2 && code <= 4 ? 1 : code == 11 ? -1 : 0;
            at++;
        }
        return at;
    }

    private void branch(Frame frame, int out, List<TwinModule.Op> ops) {
        if (out == frame.blocks.size()) {
            leave(frame);
            return;
        }
        for (int i = 0; i < out; i++) {
            frame.blocks.pop();
        }
        Block block = frame.blocks.peek();
        boolean isLoop = block.code == 3;
        int value = block.hasValue && !isLoop ? frame.pop() : 0;
        while (frame.stack.size() > block.height) {
            frame.pop();
        }
        if (isLoop) {
            frame.at = block.first;
            return;
        }
        if (block.hasValue) {
            frame.push(value);
        }
        frame.at = behindEnd(ops, block.first);
        frame.blocks.pop();
    }

    private void leave(Frame frame) {
        boolean hasValue = module.typeOf(frame.function).hasValue();
        int value = hasValue ? frame.top(0) : 0;
        frames.remove(frames.size() - 1);
        if (frames.isEmpty()) {
            word = value;
            state = ENDED;
        } else if (hasValue) {
            newest().push(value);
        }
    }

    private void callByTable(Frame frame, TwinModule.Type type) {
        Integer called = table.get(frame.top(0));
        if (called == null || !module.typeOf(called).equals(type)) {
            throw new Trap(4);
        }
        call(frame, called, 1);
    }

    /** A call with so many words above its parameters. */
    private void call(Frame frame, int called, int above) {
        int many = module.typeOf(called).parameters();
        int end = frame.stack.size() - above;
        List<Integer> words = new ArrayList<>(frame.stack.subList(end - many, end));
        boolean isHost = called < module.imports.size();
        int value = 0;
        if (isHost) {
            value = host(module.imports.get(called).name(), words);
        } else if (frames.size() == 80) {
            throw new Trap(5);
        }
        frame.stack.subList(end - many, frame.stack.size()).clear();
        frame.at++;
        if (isHost) {
            if (module.typeOf(called).hasValue()) {
                frame.push(value);
            }
            return;
        }
        Frame inner = newFrame(called);
        for (int i = 0; i < many; i++) {
            inner.locals.set(i, words.get(i));
        }
        frames.add(inner);
        mostFrames = Math.max(mostFrames, frames.size());
    }

    private int host(String name, List<Integer> words) {
        int one = words.get(0);
        switch (name) {
            case "dup":
                if (one % 4 == 0) {
                    store(use(one), load(one) + 1);
                }
                return one;
            case "drop":
                drop(one);
                return 0;
            case "link":
                return newCell(0, words);
            case "pair":
                return newCell(1, words);
            default:
                if (one < 2 || one > 80) {
                    throw new Trap(6);
                }
                return newCell(2, java.util.Collections.nCopies(one, 1));
        }
    }

    private void plain(Frame frame, TwinModule.Op op) {
        int with = (int) op.with();
        switch (op.code()) {
            case 26:
                frame.pop();
                break;
            case 27:
                int test = frame.pop();
                int second = frame.pop();
                int first = frame.pop();
                frame.push(test != 0 ? first : second);
                break;
            case 32:
                frame.push(frame.locals.get(with));
                break;
            case 33:
                frame.locals.set(with, frame.pop());
                break;
            case 34:
                frame.locals.set(with, frame.top(0));
                break;
            case 40:
                int loaded = load(unsigned(frame.top(0)) + op.with());
                frame.pop();
                frame.push(loaded);
                break;
            case 54:
                store(unsigned(frame.top(1)) + op.with(), frame.top(0));
                frame.pop();
                frame.pop();
                break;
            case 63:
                frame.push(pages);
                break;
            case 64:
                int before = pages;
                frame.push(grow(unsigned(frame.pop())) ? before : -1);
                break;
            case 65:
                frame.push(with);
                break;
            case 69:
                frame.push(frame.pop() == 0 ? 1 : 0);
                break;
            default:
                long result = combined(op.code(), frame.top(1), frame.top(0));
                frame.pop();
                frame.pop();
                frame.push((int) result);
                break;
        }
    }

    private static long truth(boolean holds) {
        return holds ? 1 : 0;
    }

    private static long combined(int code, long left, long right) {
        if ((code == 109 || code == 111) && right == 0 || code == 109 && left == Integer.MIN_VALUE && right == -1) {
            throw new Trap(2);
        }
        switch (code) {
            case 70:
                return truth(left == right);
            case 71:
                return truth(left != right);
            case 72:
                return truth(left < right);
            case 73:
                return truth(unsigned(left) < unsigned(right));
            case 74:
                return truth(left > right);
            case 76:
                return truth(left <= right);
            case 78:
                return truth(left >= right);
            case 106:
                return left + right;
            case 107:
                return left - right;
            case 108:
                return left * right;
            case 109:
                return left / right;
            case 111:
                return left % right;
            case 113:
                return left & right;
            case 114:
                return left | right;
            case 115:
                return left ^ right;
            case 116:
                return left << Math.floorMod(right, 32L);
            case 117:
                return left >> Math.floorMod(right, 32L);
            default:
                return unsigned(left) >> Math.floorMod(right, 32L);
        }
    }

    // Written values.

    String written(TwinTypes.Type type) {
        StringBuilder text = new StringBuilder();
        write(word, type.now(), text);
        return text.length() > 2000 ? text.substring(0, 2000) : text.toString();
    }

    private void write(int value, TwinTypes.Type type, StringBuilder text) {
        switch (type.sort) {
            case 't':
                text.append(value == 3 ? "yes" : "no");
                break;
            case 'l':
                text.append("[");
                for (int link = value; link != 2; link = load(link + 12)) {
                    text.append(link == value ? "" : ", ");
                    write(load(link + 8), type.one.now(), text);
                }
                text.append("]");
                break;
            case 'p':
                text.append("(");
                write(load(value + 8), type.one.now(), text);
                text.append(", ");
                write(load(value + 12), type.other.now(), text);
                text.append(")");
                break;
            case 'f':
                text.append("fun");
                break;
            default:
                text.append((value - 1) / 2);
                break;
        }
    }
}
