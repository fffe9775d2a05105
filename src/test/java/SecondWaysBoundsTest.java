/** The bounds that promises 38 to 42 name: on both sides, each on its own. */
public final class SecondWaysBoundsTest {
    private static final Kit KIT = new Kit();

    public static void main(String[] args) {
        sameValues();
        bothByDivision();
        stoppedByBound();
        stoppedByDeep();
        stoppedByMemory();
        stoppedBySteps();
        divisionOrABound();
        agreeKeepsNothing();
        agreeNeedsNoRoom();
        errorsOfModulesAndRuns();
        errorsOfReadOnes();
        checksumWraps();
        meanOfSteps();
        sharesOfCalls();
        KIT.end();
    }

    private static int agree(String text, int level, int... n) {
        Wasmhall hall = new Wasmhall();
        Kit.loaded(hall, text);
        return hall.agree(0, hall.definitions(0) - 1, level, n.length > 0 ? n[0] : 0, n.length > 1 ? n[1] : 0,
            n.length > 2 ? n[2] : 0);
    }

    private static void agreeing(String text, int due, int... n) {
        for (int level = 0; level < 2; level++) {
            KIT.due("agree() of level " + level + " of " + text, agree(text, level, n), due);
        }
    }

    /** "Returns 1 if both have the same value, written" */
    private static void sameValues() {
        agreeing("def f = 1;", 1);
        agreeing("def f a b c = [a + b, b - c, c * a, a / 3, b % 5];", 1, 1073741823, -1073741824, -1);
        agreeing("def f a = (a < 0, [fun b -> a, fun b -> b]);", 1, -5);
        agreeing("def f a = [];", 1, 5);
        agreeing("def g a b c = [a, b, c]; def f a = g a;", 1, 5);
    }

    /** "or both end by DIVISION" */
    private static void bothByDivision() {
        agreeing("def f a = 1 / a;", 1, 0);
        agreeing("def f a = 1 % a;", 1, 0);
        agreeing("def f = 1 / 0;", 1);
        agreeing("def f a = [a, (fun b -> b % 0) a];", 1, 5);
    }

    /** "2 if one was stopped by a bound (BOUND": 50 begun and not ended, 1000 carried out. */
    private static void stoppedByBound() {
        agreeing("def f n = if n < 1 then 0 else 1 + f (n - 1);", 1, 49);
        agreeing("def f n = if n < 1 then 0 else 1 + f (n - 1);", 2, 50);
        agreeing("def f n = if n < 1 then 0 else f (n - 1);", 1, 49);
        // At level 1 the module would end by itself.
        agreeing("def f n = if n < 1 then 0 else f (n - 1);", 2, 50);
        String text = "def g n = if n < 1 then 0 else g (n - 1); def f n = [" + "g 48, ".repeat(20) + "g n];";
        agreeing(text, 1, 18);
        agreeing(text, 2, 19);
        agreeing("def f = f;", 2);
    }

    /** "DEEP": a function called by APPLY has two frames beside it, that of APPLY and that of its wrapper. */
    private static void stoppedByDeep() {
        // w n has 1 + 4 * n frames at level 0: itself, APPLY, the wrapper of the fun, and the fun.
        String text = "def w n = if n < 1 then 0 else 1 + (fun x -> w (n - x)) 1; def f n = w n;";
        for (int n = 18; n <= 20; n++) {
            Wasmhall hall = Kit.made(text, 0);
            hall.begin(0, 1, n, 0, 0);
            hall.step(0, 20000);
            KIT.due("most frames with " + n, hall.runAt(0, 8), Math.min(80, 2 + 4 * n));
            KIT.due("the state with " + n, hall.runAt(0, 0), n < 20 ? 1 : 6);
            KIT.due("agree() with " + n, hall.agree(0, 1, 0, n, 0, 0), n < 20 ? 1 : 2);
        }
        // One frame more or less: 80 are 1 + 1 + 2 + 4 * 19, 81 have one more.
        String more = "def k = 1; def w n = if n < 1 then k else 1 + (fun x -> w (n - x)) 1; def g n = w n; def f n = g n;";
        KIT.due("80 frames", agree(more, 0, 19), 2 + 4 * 19 + 2 <= 80 ? 1 : 2);
        KIT.due("81 frames", agree(more.replace("def f n = g n;", "def h n = g n; def f n = h n;"), 0, 19), 2);
    }

    /** "MEMORY": 511 cells of two fields fill 8 pages. */
    private static void stoppedByMemory() {
        String text = "def t l = 1 : 1 : 1 : 1 : 1 : 1 : 1 : 1 : 1 : 1 : l; def h l = t (t (t (t (t l)))); def c l = h (h l);"
            + " def g a = c (c (c (c (c (t [1]))))); def f a = ";
        agreeing(text + "g a;", 1);
        agreeing(text + "let l = g a in case [] of [] -> 1 | x : y -> 2 end;", 1);
        agreeing(text + "let l = g a in (1, l);", 2);
    }

    /** Texts of some lengths, so that each number of steps comes about. */
    private static String ofSteps(int sums, int lets, boolean isPair) {
        return "def s n = 0" + "+n*n".repeat(sums) + "; def g n = if n < 1 then 0 else s n + g (n - 1); def f n = "
            + "let a = 1 in ".repeat(lets) + (isPair ? "(1, g n);" : "g n;");
    }

    /** "or the steps": at most 20000. */
    private static void stoppedBySteps() {
        int found = 0;
        for (int sums = 100; sums <= 140 && found < 4; sums++) {
            for (int lets = 0; lets < 8; lets++) {
                for (int n = 8; n < 20; n++) {
                    for (int pair = 0; pair < 2; pair++) {
                        found += stepsOf(ofSteps(sums, lets, pair == 1), n);
                    }
                }
            }
        }
        KIT.due("texts with just 20000 steps, or one more, were found", found >= 4, true);
    }

    /** 1 if the run has 19999 to 20002 steps; then agree() is held against that. */
    private static int stepsOf(String text, int n) {
        Wasmhall hall = Kit.made(text, 0);
        hall.begin(0, 2, n, 0, 0);
        hall.step(0, 20000);
        if (hall.runAt(0, 0) == 0) {
            hall.step(0, 20000);
        }
        int steps = hall.runAt(0, 1);
        if (hall.runAt(0, 0) != 1 || steps < 19999 || steps > 20002) {
            return 0;
        }
        KIT.due("agree() of " + steps + " steps", hall.agree(0, 2, 0, n, 0, 0), steps <= 20000 ? 1 : 2);
        return 1;
    }

    /** DIVISION by the meaning, and a bound in the module. */
    private static void divisionOrABound() {
        agreeing("def f n = if n < 1 then 1 / 0 else f (n - 1);", 1, 49);
        agreeing("def f n = if n < 1 then 1 / 0 else f (n - 1);", 2, 50);
        KIT.due("DEEP ahead of DIVISION", agree("def w n = if n < 1 then 1 / 0 else 1 + (fun x -> w (n - x)) 1; def f n = w n;", 0,
            20), 2);
        KIT.due("DIVISION ahead of DEEP", agree("def w n = if n < 1 then 1 / 0 else 1 + (fun x -> w (n - x)) 1; def f n = w n;", 0,
            19), 1);
    }

    /** "(no run and no module is kept)", "(A question.)" */
    private static void agreeKeepsNothing() {
        Wasmhall hall = Kit.made("def f n = if n < 1 then [] else n : f (n - 1);", 0);
        hall.mean(0, 0, 3, 0, 0);
        hall.begin(0, 0, 3, 0, 0);
        hall.step(0, 10);
        hall.bytes(99, 2);
        hall.read();
        String before = Look.at(hall);
        for (int level = 0; level < 2; level++) {
            for (int n : new int[] {0, 9, 60}) {
                KIT.due("agree()", hall.agree(0, 0, level, n, 0, 0), n == 60 ? 2 : 1);
                KIT.due("nothing has changed", Look.at(hall), before);
            }
        }
        KIT.refused(hall, "level -1", IllegalArgumentException.class, () -> hall.agree(0, 0, -1, 0, 0, 0));
        KIT.refused(hall, "level 2", IllegalArgumentException.class, () -> hall.agree(0, 0, 2, 0, 0, 0));
        KIT.refused(hall, "program 1", IndexOutOfBoundsException.class, () -> hall.agree(1, 0, 2, 0, 0, 0));
        KIT.refused(hall, "definition 1", IndexOutOfBoundsException.class, () -> hall.agree(0, 1, 2, 0, 0, 0));
        KIT.refused(hall, "definition -1", IndexOutOfBoundsException.class, () -> hall.agree(0, -1, 0, 0, 0, 0));
    }

    /** With 6 programs, 8 modules and 6 runs. */
    private static void agreeNeedsNoRoom() {
        Wasmhall hall = new Wasmhall();
        for (int i = 0; i < 6; i++) {
            Kit.loaded(hall, "def f n = [n, " + i + "];");
        }
        for (int i = 0; i < 8; i++) {
            hall.make(i % 6, i % 2);
        }
        for (int i = 0; i < 6; i++) {
            hall.begin(i, 0, i, 0, 0);
            hall.step(i, 2 + i);
        }
        String before = Look.at(hall);
        for (int i = 0; i < 6; i++) {
            KIT.due("agree()", hall.agree(i, 0, i % 2, 5, 0, 0), 1);
        }
        KIT.due("errors()", hall.errors(), 0);
        KIT.due("nothing has changed", Look.at(hall), before);
    }

    /** "Holds all modules and runs against the theorem", in each state of a run. */
    private static void errorsOfModulesAndRuns() {
        Wasmhall hall = new Wasmhall();
        KIT.due("of nothing", hall.errors(), 0);
        Kit.loaded(hall, "def f n = if n < 1 then [] else n : f (n - 1); def g n = [1 / n]; def h n = f (0 - 1) : h n;");
        hall.make(0, 0);
        hall.make(0, 1);
        KIT.due("of modules", hall.errors(), 0);
        hall.begin(0, 0, 5, 0, 0);
        for (int i = 0; hall.runAt(0, 0) == 0 && i < 1000; i++) {
            hall.step(0, 1);
            KIT.due("behind each step", hall.errors(), 0);
        }
        KIT.due("it has ended", hall.runAt(0, 0), 1);
        hall.giveBack(0);
        KIT.due("of what was given back", hall.errors(), 0);
        hall.begin(1, 1, 0, 0, 0);
        hall.step(1, 20000);
        hall.begin(0, 2, 0, 0, 0);
        hall.step(2, 20000);
        KIT.due("DIVISION", hall.runAt(1, 0), 3);
        KIT.due("DEEP", hall.runAt(2, 0), 6);
        KIT.due("of these", hall.errors(), 0);
    }

    /** Runs of read modules do what they like. */
    private static void errorsOfReadOnes() {
        String[] words = {"unreachable", "const 0, call 0, drop", "const 5, call_indirect 1", "const 2, call 1, drop", "nop"};
        int[] states = {2, 7, 5, 1, 1};
        for (int i = 0; i < words.length; i++) {
            Wasmhall hall = Kit.read(Bytes.module(Bytes.section(1, Bytes.row(Bytes.type(1, 1), Bytes.type(0, 0))),
                Bytes.section(2, Bytes.row(Bytes.imported("dup", 0), Bytes.imported("room", 0))), Bytes.section(3, Bytes.of(1, 1)),
                Bytes.table(1), Bytes.memory(1, 1), Bytes.section(7, Bytes.row(Bytes.exported("a", 2))), Bytes.section(10,
                Bytes.row(Bytes.code(0, Bytes.asm(words[i]))))));
            hall.begin(0, 0, 0, 0, 0);
            hall.step(0, 100);
            KIT.due("the state of " + words[i], hall.runAt(0, 0), states[i]);
            KIT.due("errors() with " + words[i], hall.errors(), 0);
        }
    }

    /** "17 at first, then for each byte 31 times as much and the byte; it wraps" */
    private static void checksumWraps() {
        Wasmhall hall = new Wasmhall();
        KIT.due("of no output", hall.checksum(), 17);
        Kit.loaded(hall, "def f = 1; def g = [1000, 2000, 3000]; def h = g; def i = 0 - 999999999;");
        String[] outputs = {"1", "[1000, 2000, 3000]", "[1000, 2000, 3000]", "-999999999"};
        for (int d = 0; d < 4; d++) {
            hall.mean(0, d, 0, 0, 0);
            int due = 17;
            for (char sign : outputs[d].toCharArray()) {
                due = 31 * due + sign;
            }
            KIT.due("checksum() of " + outputs[d], hall.checksum(), due);
        }
        KIT.due("one byte", 17 * 31 + '1', 576);
    }

    /** "the sum of their steps, as it is, ..., divided by their number; 0.0 without runs" */
    private static void meanOfSteps() {
        Wasmhall hall = Kit.made("def f n = n; def g n = if n < 1 then 0 else g (n - 1);", 1);
        KIT.due("without runs", hall.meanSteps() == 0.0, true);
        hall.begin(0, 0, 0, 0, 0);
        KIT.due("without steps", hall.meanSteps() == 0.0, true);
        hall.step(0, 1);
        KIT.due("one step", hall.meanSteps() == 1.0, true);
        hall.begin(0, 1, 1000000, 0, 0);
        KIT.due("1 and 0", hall.meanSteps() == 0.5, true);
        hall.begin(0, 0, 0, 0, 0);
        KIT.due("1, 0 and 0", hall.meanSteps() == 1.0 / 3.0, true);
        for (int i = 0; i < 10; i++) {
            hall.step(1, 20000);
        }
        KIT.due("200001 by 3", hall.meanSteps() == 200001.0 / 3.0, true);
        hall.dropRun(0);
        KIT.due("200000 by 2", hall.meanSteps() == 100000.0, true);
        hall.clearModules();
        KIT.due("none again", hall.meanSteps() == 0.0, true);
    }

    /** "the share of the instructions of a module that are calls of dup or drop ...; 0.0f without any" */
    private static void sharesOfCalls() {
        Wasmhall hall = Kit.read(Bytes.head());
        KIT.due("without any", hall.countedShare(0) == 0.0f, true);
        KIT.refused(hall, "countedShare(1)", IndexOutOfBoundsException.class, () -> hall.countedShare(1));
        KIT.refused(hall, "countedShare(-1)", IndexOutOfBoundsException.class, () -> hall.countedShare(-1));
        // Imports in another order, one of them twice: 0 room, 1 drop, 2 dup, 3 drop. Own function 4.
        int[] types = Bytes.section(1, Bytes.row(Bytes.type(1, 1), Bytes.type(1, 0), Bytes.type(0, 0)));
        Wasmhall some = Kit.read(Bytes.module(types, Bytes.section(2, Bytes.row(Bytes.imported("room", 0),
            Bytes.imported("drop", 1), Bytes.imported("dup", 0), Bytes.imported("drop", 1))), Bytes.section(3, Bytes.of(2, 2, 2)),
            Bytes.table(1), Bytes.section(9, Bytes.row(Bytes.element(0, 1))), Bytes.section(10, Bytes.row(Bytes.code(0,
            Bytes.asm("const 2, call 0, call 2, call 1, const 1, call 3, call 5, const 1, const 0, call_indirect 1")),
            Bytes.code(0)))));
        KIT.due("fault(true)", some.fault(true), 0);
        KIT.due("three of twelve", some.countedShare(0) == 3.0f / 12.0f, true);
        Wasmhall none = Kit.read(Bytes.module(types, Bytes.section(3, Bytes.of(1, 2)), Bytes.section(10, Bytes.row(Bytes.code(0)))));
        KIT.due("none of one", none.countedShare(0) == 0.0f, true);
        KIT.due("of APPLY alone", Kit.made("", 0).countedShare(0) == 2.0f / 61.0f, true);
    }
}
