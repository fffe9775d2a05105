import java.lang.reflect.InvocationTargetException;
import java.lang.reflect.Method;
import java.util.ArrayList;
import java.util.HashMap;
import java.util.List;
import java.util.Map;
import java.util.Random;

/**
 * All promises: the class and a second program that was written from the document apart from it (Twin) answer the same to
 * random runs of calls, with several programs, modules and runs side by side, made and read, and behind refused calls.
 */
public final class TwinTest {
    private static final Kit KIT = new Kit();
    private static final int MOST_CALLS = 512;
    /**
     * The calls and what their parameters are: p a program, d a definition of it, n a number, m a module, x an export,
     * f a function, i an instruction, r a run, s steps, g a frame, k a small number, l a place in memory, b a byte, j an
     * index of the BYTES, h how many of them, t a truth, 8 eight bytes, a digit ahead of w: a number below it.
     */
    private static final String[] CALLS = {"type 8888", "piece 8w", "clearText", "faultKind", "faultPlace", "load",
        "definitions p", "parameters pd", "typeOf pd", "output k", "mean pdnnn", "meant 2w", "make p2w", "moduleAt m9w",
        "functionAt mf4w", "opAt mfi2w", "countOf mb", "bytes 89w", "write m", "byteAt j", "setByte jb", "cutBytes h",
        "read", "fault t", "same mm", "clearModules", "begin mxnnn", "step rs", "runAt r12w", "word r", "value r",
        "giveBack r", "stackAt rk", "localAt rgk", "memoryAt rl", "dropRun r", "agree pd2wnnn", "errors", "checksum",
        "meanSteps", "countedShare m"};
    private static final int[] NUMBERS = {0, 1, 2, 3, 4, 5, 7, 10, 20, 44, 100, -1, -2, -7, 1073741823, -1073741824,
        1073741824, -1073741825, Integer.MAX_VALUE, Integer.MIN_VALUE, 32768, -46341};
    private static final Map<String, Method> METHODS = new HashMap<>();
    private final Random random;
    private final Wasmhall hall = new Wasmhall();
    private final Twin twin = new Twin();
    private final List<String> done = new ArrayList<>();
    private boolean isWrong;
    private int programs;
    private int modules;
    private int runs;
    private int bytes;

    private TwinTest(long seed) {
        random = new Random(seed);
    }

    public static void main(String[] args) throws InterruptedException {
        long first = args.length > 0 ? Long.parseLong(args[0]) : 0;
        long many = args.length > 1 ? Long.parseLong(args[1]) : 300;
        for (Class<?> one : new Class<?>[] {Wasmhall.class, Twin.class}) {
            for (Method method : one.getDeclaredMethods()) {
                String name = method.getName() + (method.getName().equals("write") ? method.getParameterTypes()[0] : "");
                METHODS.put(one.getSimpleName() + "." + name, method);
            }
        }
        // The twin calls itself without a bound of its own.
        Thread thread = new Thread(null, () -> runAll(first, many), "twins", 1L << 26);
        thread.start();
        thread.join();
        KIT.end();
    }

    private static void runAll(long first, long many) {
        for (long seed = first; seed < first + many; seed++) {
            TwinTest test = new TwinTest(seed);
            test.run();
            if (test.isWrong) {
                System.out.println("seed " + seed + ":\n" + String.join("\n", test.done));
            }
        }
    }

    private void run() {
        while (done.size() < MOST_CALLS && !isWrong) {
            act();
        }
        lookAtAll();
    }

    private boolean oneOf(int many) {
        return random.nextInt(many) == 0;
    }

    // Calls of both.

    private static Object answer(Object target, String name, Object[] arguments) {
        Method method = METHODS.get(target.getClass().getSimpleName() + "." + name + (name.equals("write") ? "int" : ""));
        try {
            return method.invoke(target, arguments);
        } catch (InvocationTargetException e) {
            return "throws " + e.getCause().getClass().getName();
        } catch (IllegalAccessException e) {
            return "cannot be called";
        }
    }

    private Object call(String name, Object... arguments) {
        Object got = answer(hall, name, arguments);
        Object due = answer(twin, name, arguments);
        String what = name + java.util.Arrays.toString(arguments);
        done.add(what + " " + got);
        KIT.due(what, got.toString(), due.toString());
        isWrong = isWrong || !got.equals(due);
        return got;
    }

    private int number(String name, Object... arguments) {
        Object got = call(name, arguments);
        return got instanceof Integer ? (Integer) got : -1;
    }

    /** A call that is there for the test itself, and does not count. */
    private int asked(String name, Object... arguments) {
        Object got = answer(hall, name, arguments);
        return got instanceof Integer ? (Integer) got : 0;
    }

    // What is done.

    private void act() {
        switch (random.nextInt(12)) {
            case 0:
                if (programs < 6 || oneOf(20)) {
                    putText();
                }
                break;
            case 1:
                if (modules < 8 && !oneOf(3)) {
                    int made = number("make", somePlace(programs), random.nextInt(2));
                    modules = Math.max(modules, made + 1);
                }
                break;
            case 2:
                if (oneOf(3)) {
                    putBytes();
                }
                break;
            case 3:
                if (oneOf(40)) {
                    call("clearModules");
                    modules = 0;
                    runs = 0;
                }
                break;
            case 4: case 5:
                if (runs < 6) {
                    beginRun();
                }
                break;
            case 6: case 7:
                goOn();
                break;
            default:
                any();
                break;
        }
    }

    private void putText() {
        if (oneOf(3)) {
            call("clearText");
        }
        String text = someText();
        for (int i = 0; i < text.length(); i += 32) {
            call("type", Kit.eight(text, i), Kit.eight(text, i + 8), Kit.eight(text, i + 16), Kit.eight(text, i + 24));
        }
        call("faultPlace");
        if (number("faultKind") == 0) {
            programs = Math.max(programs, number("load") + 1);
        } else if (!oneOf(5)) {
            call("clearText");
        }
    }

    private String someText() {
        String text = new RandomTexts(random.nextLong()).text();
        while (text.length() > 400) {
            text = new RandomTexts(random.nextLong()).text();
        }
        return oneOf(3) ? LooseTexts.text(random) : oneOf(3) ? LooseTexts.changed(text, random) : text;
    }

    private void putBytes() {
        call("cutBytes", 0);
        if (oneOf(2) && modules > 0) {
            bytes = Math.max(0, number("write", random.nextInt(modules)));
            for (int i = random.nextInt(3); i > 0 && bytes > 0; i--) {
                int place = random.nextInt(bytes);
                call("setByte", place, oneOf(2) ? random.nextInt(256) : asked("byteAt", place) ^ 1 << random.nextInt(8));
            }
        } else {
            int[] row = new RandomModules(random.nextLong()).bytes();
            bytes = 0;
            putBytes(oneOf(2) ? RandomModules.changed(row, random) : row);
        }
        modules = Math.max(modules, number("read") + 1);
        call("fault", true);
        call("fault", false);
    }

    private void putBytes(int[] row) {
        for (int i = 0; i < row.length; i += 8) {
            int many = Math.min(8, row.length - i);
            long eight = random.nextInt(3);
            for (int k = i; k < i + many; k++) {
                eight = eight << 8 | row[k];
            }
            bytes = Math.max(bytes, number("bytes", eight, many));
        }
    }

    private void beginRun() {
        int module = somePlace(modules);
        int export = somePlace(asked("moduleAt", module, 4));
        int run = number("begin", module, export, someNumber(), someNumber(), someNumber());
        runs = Math.max(runs, run + 1);
        if (run >= 0 && oneOf(2)) {
            call("step", run, 20000);
        }
    }

    private void goOn() {
        int run = somePlace(runs);
        call("step", run, oneOf(3) ? 20000 : 1 + random.nextInt(oneOf(2) ? 8 : 300));
        lookAtRun(run);
        if (oneOf(3)) {
            call("value", run);
            lookAtOutput();
        }
        if (oneOf(3)) {
            call("giveBack", run);
            lookAtRun(run);
        }
        if (oneOf(6)) {
            runs = Math.max(0, number("dropRun", run));
        }
    }

    /** One of so many, mostly. */
    private int somePlace(int many) {
        return oneOf(25) ? oneOf(2) ? many : -1 : random.nextInt(Math.max(1, many));
    }

    private int someNumber() {
        return NUMBERS[random.nextInt(oneOf(3) ? NUMBERS.length : 12)];
    }

    /** Any call at all with any parameters. */
    private void any() {
        String[] which = CALLS[random.nextInt(CALLS.length)].split(" ");
        if (which[0].equals("clearModules") || which[0].equals("cutBytes") && !oneOf(4)) {
            return;
        }
        List<Object> arguments = new ArrayList<>();
        String kinds = which.length > 1 ? which[1] : "";
        int below = 0;
        for (char kind : kinds.toCharArray()) {
            boolean isDigit = Character.isDigit(kind) && !which[0].equals("type") && kinds.indexOf('w') >= 0
                && !(which[0].equals("bytes") && arguments.isEmpty());
            if (isDigit) {
                below = 10 * below + kind - '0';
            } else {
                arguments.add(argument(kind, below, arguments));
                below = 0;
            }
        }
        int answer = number(which[0], arguments.toArray());
        switch (which[0]) {
            case "load":
                programs = Math.max(programs, answer + 1);
                break;
            case "make": case "read":
                modules = Math.max(modules, answer + 1);
                break;
            case "begin":
                runs = Math.max(runs, answer + 1);
                break;
            case "dropRun":
                runs = answer >= 0 ? answer : runs;
                break;
            case "typeOf": case "mean":
                lookAtOutput();
                break;
            default:
                break;
        }
        bytes = bytesNow();
    }

    private int bytesNow() {
        int many = 0;
        while (asked("byteAt", many) >= 0) {
            many++;
        }
        return many;
    }

    private Object argument(char kind, int below, List<Object> ahead) {
        switch (kind) {
            case 'p':
                return somePlace(programs);
            case 'd':
                return somePlace(asked("definitions", ahead.get(0)));
            case 'n':
                return someNumber();
            case 'm':
                return somePlace(modules);
            case 'x':
                return somePlace(asked("moduleAt", ahead.get(0), 4));
            case 'f':
                return somePlace(asked("moduleAt", ahead.get(0), 1) + asked("moduleAt", ahead.get(0), 2));
            case 'i':
                return somePlace(asked("functionAt", ahead.get(0), ahead.get(1), 3));
            case 'r':
                return somePlace(runs);
            case 's':
                return oneOf(8) ? somePlace(20001) : 1 + random.nextInt(30);
            case 'g': case 'k':
                return random.nextInt(oneOf(4) ? 60 : 5) - (oneOf(9) ? 1 : 0);
            case 'l':
                return random.nextInt(oneOf(3) ? 5000 : 200) - (oneOf(9) ? 9 : 0);
            case 'b':
                return oneOf(9) ? 256 - 257 * random.nextInt(2) : random.nextInt(oneOf(2) ? 256 : 120);
            case 'j':
                return somePlace(bytes);
            case 'h':
                return bytes - random.nextInt(5) + 1;
            case 't':
                return random.nextBoolean();
            case '8':
                return oneOf(2) ? random.nextLong() : Kit.eight("def f =;", random.nextInt(4));
            default:
                return somePlace(below);
        }
    }

    // What is looked at; this does not count as calls.

    private void same(String name, Object... arguments) {
        call(name, arguments);
        done.remove(done.size() - 1);
    }

    private void lookAtOutput() {
        for (int i = 0; i == 0 || asked("output", i - 1) >= 0; i++) {
            same("output", i);
        }
        same("checksum");
        same("meant", 0);
        same("meant", 1);
    }

    private void lookAtRun(int run) {
        for (int what = 0; what < 12; what++) {
            same("runAt", run, what);
        }
        same("word", run);
        int frames = asked("runAt", run, 2);
        for (int frame = 0; frame <= frames && frame < 4; frame++) {
            for (int local = 0; local < 6; local++) {
                same("localAt", run, frame, local);
            }
        }
        for (int depth = 0; depth < 6; depth++) {
            same("stackAt", run, depth);
        }
        same("meanSteps");
    }

    private void lookAtModule(int module) {
        for (int what = 0; what < 9; what++) {
            same("moduleAt", module, what);
        }
        same("countedShare", module);
        for (int other = 0; other < modules; other++) {
            same("same", module, other);
        }
        for (int code = 0; code < 128; code++) {
            same("countOf", module, code);
        }
        int functions = asked("moduleAt", module, 1) + asked("moduleAt", module, 2);
        for (int f = 0; f <= functions; f++) {
            for (int what = 0; what < 4; what++) {
                same("functionAt", module, f, what);
            }
            for (int i = 0; i <= asked("functionAt", module, f, 3); i++) {
                same("opAt", module, f, i, 0);
                same("opAt", module, f, i, 1);
            }
        }
    }

    private void lookAtAll() {
        lookAtOutput();
        for (int program = 0; program < programs; program++) {
            for (int d = 0; d < asked("definitions", program); d++) {
                same("typeOf", program, d);
                lookAtOutput();
            }
        }
        for (int module = 0; module < modules; module++) {
            lookAtModule(module);
        }
        for (int run = 0; run < runs; run++) {
            lookAtRun(run);
            for (int place = -4; place < 1024 * asked("runAt", run, 4); place += 3) {
                same("memoryAt", run, place);
            }
        }
        for (int i = -1; i <= bytes; i++) {
            same("byteAt", i);
        }
        same("errors");
    }
}
