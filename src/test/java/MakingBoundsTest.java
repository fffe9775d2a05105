/** The bounds that section 5 of the document names, and those of promises 14 to 18: on both sides, each on its own. */
public final class MakingBoundsTest {
    private static final Kit KIT = new Kit();

    public static void main(String[] args) {
        wordsOfValues();
        greatestNumberOfParameters();
        noWrappers();
        namesOfExports();
        orderOfFunctions();
        orderOfCaughtNames();
        caughtNamesByTheirNumbersThere();
        onlyNamesThatStandGetLocals();
        hiddenLocals();
        dupOfWhatIsNeeded();
        usesOfAsManyAtoms();
        cellsOfNoValues();
        definitionsWithoutParameters();
        wrappersOfEachNumber();
        parametersThatDoNotStand();
        dropsOfBranches();
        namesOfBranches();
        bracketsAreNothing();
        foldingGoesRound();
        foldingLeavesDivisionsBy0();
        foldingTestsAndIfs();
        whatIsLeftOut();
        foldingAheadOfUses();
        lastPlaces();
        noLastPlaces();
        loopsInIfs();
        levels();
        eightModules();
        densestTexts();
        questionsOfModules();
        questionsOfFunctions();
        questionsOfInstructions();
        countsOfInstructions();
        KIT.end();
    }

    private static void code(String text, int level, int function, String due) {
        Wasmhall hall = Kit.made(text, level);
        KIT.due("function " + function + " of level " + level + " of " + text, Kit.code(hall, 0, function), Kit.asm(due));
        hall.write(0);
        KIT.due("the module of level " + level + " of " + text + " is valid", hall.read(), 1);
        KIT.due("and the same when it is read", hall.same(0, 1), true);
    }

    private static void both(String text, int function, String due) {
        code(text, 0, function, due);
        code(text, 1, function, due);
    }

    /** "a number n is 2 * n + 1 (as 32 bits); yes is 3, no 1; the empty list 2" */
    private static void wordsOfValues() {
        both("def f = 0;", 6, "const 1, end");
        both("def f = 1;", 6, "const 3, end");
        both("def f = 999999999;", 6, "const 1999999999, end");
        both("def f = yes;", 6, "const 3, end");
        both("def f = no;", 6, "const 1, end");
        both("def f = [];", 6, "const 2, end");
        code("def f = 0 - 1;", 1, 6, "const -1, end");
        code("def f = 536870912 + 536870911;", 1, 6, "const 2147483647, end");
        code("def f = 536870912 + 536870912;", 1, 6, "const -2147483647, end");
    }

    /** "k from 0 to m, the greatest number of parameters of a function, at least 2" */
    private static void greatestNumberOfParameters() {
        int[] types = {4, 4, 4, 5, 6};
        String names = "";
        for (int k = 0; k <= 4; k++) {
            KIT.due("types with " + k + " parameters", Kit.made("def f" + names + " = 1;", 0).moduleAt(0, 0), types[k]);
            names += " p" + k;
        }
        // A fun counts with what it has caught: 2 + 1, then 4 + 4.
        KIT.due("types with a fun of 2", Kit.made("def f a = fun b -> a;", 0).moduleAt(0, 0), 4);
        KIT.due("types with a fun of 3", Kit.made("def f a b = fun c -> a + b;", 0).moduleAt(0, 0), 5);
        Wasmhall hall = Kit.made("def f a b c d = fun e g h i -> a + b + c + d + e + g + h + i;", 0);
        KIT.due("types with a fun of 8", hall.moduleAt(0, 0), 10);
        KIT.due("the type of drop", hall.functionAt(0, 1, 0), 9);
        KIT.due("the type of the fun", hall.functionAt(0, 7, 0), 8);
        KIT.due("the type of room", hall.functionAt(0, 4, 0), 1);
        KIT.due("the type of pair", hall.functionAt(0, 3, 0), 2);
    }

    /** "Elements ... of a made one it is one, perhaps of no functions" */
    private static void noWrappers() {
        Wasmhall none = Kit.made("def f = 1;", 0);
        KIT.due("no entries", none.moduleAt(0, 3), 0);
        none.write(0);
        KIT.due("a table, and an element of none", Kit.bytes(none).contains(" 4 4 1 112 0 0 5 4 1 1 1 8 7 5 1 1 102 0 6"
            + " 9 6 1 0 65 0 11 0 10 "), true);
        Wasmhall one = Kit.made("def f a = 1;", 0);
        KIT.due("one entry", one.moduleAt(0, 3), 1);
        one.write(0);
        KIT.due("an element of one", Kit.bytes(one).contains(" 4 4 1 112 0 1 5 4 1 1 1 8 7 5 1 1 102 0 6 9 7 1 0 65 0 11 1 7 10 "),
            true);
        Wasmhall empty = Kit.made("", 1);
        KIT.due("an empty program has APPLY alone", empty.moduleAt(0, 2), 1);
        KIT.due("no exports", empty.moduleAt(0, 4), 0);
    }

    /** "an export for each definition: a made module's exports stand in the order of the definitions" */
    private static void namesOfExports() {
        String[] names = {"a", "z", "zzzzzz", "a0", "z9", "a01289", "b0", "aj", "yz9zy0", "abcdef", "z99999", "f1f2f3"};
        StringBuilder text = new StringBuilder();
        StringBuilder due = new StringBuilder(" 12");
        for (int i = 0; i < names.length; i++) {
            text.append("def ").append(names[i]).append(" = ").append(i).append("; ");
            due.append(' ').append(names[i].length());
            for (char sign : names[i].toCharArray()) {
                due.append(' ').append((int) sign);
            }
            due.append(" 0 ").append(6 + i);
        }
        Wasmhall hall = Kit.made(text.toString(), 0);
        hall.write(0);
        KIT.due("the names of exports", Kit.bytes(hall).contains(due + " 9 6 1 0 65 0 11 0 10 "), true);
        for (int i = 0; i < names.length; i++) {
            hall.begin(0, i, 0, 0, 0);
            hall.step(0, 2);
            KIT.due("export " + i, hall.word(0), 2 * i + 1);
            hall.dropRun(0);
        }
    }

    /** "definition by definition, its function, and the functions of the funs in it, by the places of their tokens" */
    private static void orderOfFunctions() {
        String text = "def f a = (fun b -> fun c -> a, fun d -> 1); def k = 2; def g e = fun h -> 3;";
        Wasmhall hall = Kit.made(text, 0);
        // 5 APPLY, 6 f, 7 to 9 its funs, 10 k, 11 g, 12 its fun; then 13 to 18 the wrappers of all but k.
        KIT.due("own functions", hall.moduleAt(0, 2), 14);
        KIT.due("entries", hall.moduleAt(0, 3), 6);
        int[] parameters = {2, 1, 2, 2, 1, 0, 1, 1, 2, 2, 2, 2, 2, 2};
        for (int i = 0; i < parameters.length; i++) {
            KIT.due("parameters of function " + (5 + i), hall.functionAt(0, 5 + i, 1), parameters[i]);
        }
        int[] wrapped = {6, 7, 8, 9, 11, 12};
        for (int i = 0; i < wrapped.length; i++) {
            int last = hall.functionAt(0, 13 + i, 3) - 2;
            KIT.due("wrapper " + i + " calls", hall.opAt(0, 13 + i, last, 1), wrapped[i]);
        }
        hall.write(0);
        KIT.due("the element", Kit.bytes(hall).contains(" 9 12 1 0 65 0 11 6 13 14 15 16 17 18 10 "), true);
        KIT.due("export 2 is g", Kit.bytes(hall).contains(" 3 1 102 0 6 1 107 0 10 1 103 0 11 9 "), true);
        // The second word of a cell is 2 * (its wrapper) + 1: the second fun of f has wrapper 3, that of g 5.
        code(text, 0, 11, "get 0, call 1, const 2, call 4, set 1, get 1, const 11, store 8, get 1, const 3, store 12, get 1, end");
    }

    /** "first its CAUGHT names ..., by their numbers there; then its own" */
    private static void orderOfCaughtNames() {
        both("def f a b c = fun d -> [c, d, a];", 7, "get 1, get 2, get 0, const 2, call 2, call 2, call 2, end");
        both("def f a b c = fun d -> [c, d, a];", 6, "get 1, call 1, const 4, call 4, set 3, get 3, const 3, store 8, get 3,"
            + "const 3, store 12, get 3, get 0, store 16, get 3, get 2, store 20, get 3, end");
        // Locals come behind parameters, by their tokens.
        both("def f a = let b = 1 in let c = 2 in fun d -> [c, b, a];", 7,
            "get 3, call 1, get 2, get 1, get 0, const 2, call 2, call 2, call 2, end");
        both("def f a = let b = 1 in let c = 2 in fun d -> [c, b, a];", 6, "const 3, set 1, const 5, set 2, const 5, call 4,"
            + "set 3, get 3, const 3, store 8, get 3, const 3, store 12, get 3, get 0, store 16, get 3, get 1, store 20,"
            + "get 3, get 2, store 24, get 3, end");
    }

    /** "(of the function that it stands in: parameters, caught ones or locals), by their numbers there" */
    private static void caughtNamesByTheirNumbersThere() {
        // The inner fun stands in the outer one, whose parameters are a, c (caught), d (its own).
        String text = "def f a b c = fun d -> let e = 1 in fun g -> [e, d, c, a];";
        both(text, 7, "const 3, set 3, const 6, call 4, set 4, get 4, const 5, store 8, get 4, const 3, store 12,"
            + "get 4, get 0, store 16, get 4, get 1, store 20, get 4, get 2, store 24, get 4, get 3, store 28, get 4, end");
        both(text, 8, "get 4, call 1, get 3, get 2, get 1, get 0, const 2, call 2, call 2, call 2, call 2, end");
        // A name that a fun in a fun has caught is caught by the outer one, too.
        both("def f a = fun b -> fun c -> a;", 6, "const 3, call 4, set 1, get 1, const 3, store 8, get 1, const 3, store 12,"
            + "get 1, get 0, store 16, get 1, end");
    }

    /** "each name of a let or a branch that stands in its exp somewhere (only these get one)" */
    private static void onlyNamesThatStandGetLocals() {
        KIT.due("a let whose name does not stand", Kit.made("def f = let a = 1 in 2;", 0).functionAt(0, 6, 2), 0);
        KIT.due("a let whose name stands", Kit.made("def f = let a = 1 in a;", 0).functionAt(0, 6, 2), 1);
        KIT.due("a name that another one hides", Kit.made("def f = let a = 1 in let a = 2 in a;", 0).functionAt(0, 6, 2), 1);
        KIT.due("a name in a fun alone, and its cell", Kit.made("def f = let a = 1 in fun b -> a;", 0).functionAt(0, 6, 2), 2);
        KIT.due("no name of a branch", Kit.made("def f l = case l of [] -> 1 | h : t -> 2 end;", 0).functionAt(0, 6, 2), 1);
        KIT.due("the head alone", Kit.made("def f l = case l of [] -> 1 | h : t -> h end;", 0).functionAt(0, 6, 2), 2);
        KIT.due("both", Kit.made("def f l = case l of [] -> (1, []) | h : t -> (h, t) end;", 0).functionAt(0, 6, 2), 3);
        both("def f = let a = 1 in let a = 2 in a;", 6, "const 3, call 1, const 5, set 0, get 0, end");
        both("def f p = case p of (a, b) -> 1 end;", 6, "get 0, set 1, get 1, call 1, const 3, end");
        both("def f p = case p of (a, b) -> a end;", 6, "get 0, set 1, get 1, load 8, call 0, set 2, get 1, call 1, get 2, end");
    }

    /** "hidden ones: one for each case (its token), and one for each function cell that is made" */
    private static void hiddenLocals() {
        KIT.due("three cells", Kit.made("def g a = a; def f = [g, g, fun x -> x];", 0).functionAt(0, 7, 2), 3);
        KIT.due("no cells of calls", Kit.made("def g a = a; def f = [g 1, g 2];", 0).functionAt(0, 7, 2), 0);
        // By the order of tokens: b 0, the case 1, the atom g 2, h 3, the fun 4.
        both("def g a = a; def f = let b = 1 in case [g] of [] -> b | h : t -> (fun x -> x) (h b) end;", 7,
            "const 3, set 0, const 2, call 4, set 2, get 2, const 1, store 8, get 2, const 3, store 12, get 2, const 2, call 2,"
            + "tee 1, const 2, eq, if, get 0, else, get 1, load 8, call 0, set 3, get 1, call 1, const 2, call 4, set 4,"
            + "get 4, const 3, store 8, get 4, const 3, store 12, get 4, get 3, get 0, call 5, call 5, end, end");
        // What stands in a fun belongs to its function.
        KIT.due("one cell of the outer fun", Kit.made("def f = fun a -> fun b -> fun c -> 1;", 0).functionAt(0, 6, 2), 1);
        KIT.due("one of the inner one", Kit.made("def f = fun a -> fun b -> fun c -> 1;", 0).functionAt(0, 7, 2), 1);
        KIT.due("none of the innermost one", Kit.made("def f = fun a -> fun b -> fun c -> 1;", 0).functionAt(0, 9, 2), 0);
    }

    /** "A local x: get x; if x is in N: call dup." */
    private static void dupOfWhatIsNeeded() {
        both("def f a = a;", 6, "get 0, end");
        both("def f a = (a, a);", 6, "get 0, call 0, get 0, call 3, end");
        both("def f a = (a, (a, a));", 6, "get 0, call 0, get 0, call 0, get 0, call 3, call 3, end");
        both("def f a = a + 1 + a;", 6, "get 0, call 0, const 3, add, const 1, sub, get 0, add, const 1, sub, end");
        both("def f a = let b = a in (b, a);", 6, "get 0, call 0, set 1, get 1, get 0, call 3, end");
        both("def f a = let b = a in b;", 6, "get 0, set 1, get 1, end");
        // A name that another exp binds anew is none of it.
        both("def f a = (a, let a = 1 in a);", 6, "get 0, const 3, set 1, get 1, call 3, end");
        both("def f a = (a, fun a -> a);", 6, "get 0, const 2, call 4, set 1, get 1, const 3, store 8, get 1, const 3, store 12,"
            + "get 1, call 3, end");
        both("def f a = (a, fun b -> a);", 6, "get 0, call 0, const 3, call 4, set 1, get 1, const 3, store 8, get 1, const 3,"
            + "store 12, get 1, get 0, store 16, get 1, call 3, end");
        both("def f a = if a then (fun b -> a) 1 else no;", 6, "get 0, call 0, const 2, and, if, const 3, call 4, set 1, get 1,"
            + "const 3, store 8, get 1, const 3, store 12, get 1, get 0, store 16, get 1, const 3, call 5, else, get 0, call 1,"
            + "const 1, end, end");
        both("def g a b = a; def f a = g a a;", 7, "get 0, call 0, get 0, call 6, end");
        both("def f g = g (g 1);", 6, "get 0, call 0, get 0, const 3, call 5, call 5, end");
    }

    /** "a definition of k parameters that has at least k further atoms: ... With fewer, j of them (also 0, if k is not 0)" */
    private static void usesOfAsManyAtoms() {
        String text = "def g a b = fun c -> a + b + c; def f = ";
        String cell = "call 4, set 0, get 0, const 1, store 8, get 0, ";
        both(text + "g;", 8, "const 2, " + cell + "const 5, store 12, get 0, end");
        both(text + "g 1;", 8, "const 3, " + cell + "const 3, store 12, get 0, const 3, store 16, get 0, end");
        both(text + "g 1 2;", 8, "const 3, const 5, call 6, end");
        both(text + "g 1 2 3;", 8, "const 3, const 5, call 6, const 7, call 5, end");
        both(text + "(g 1) 2;", 8, "const 3, " + cell + "const 3, store 12, get 0, const 3, store 16, get 0, const 5, call 5, end");
        both(text + "(g 1 2) 3;", 8, "const 3, const 5, call 6, const 7, call 5, end");
    }

    private static void cellsOfNoValues() {
        both("def g a = a; def f = g;", 7, "const 2, call 4, set 0, get 0, const 1, store 8, get 0, const 3, store 12, get 0, end");
        both("def g a b c d = a; def f = g 1 2 3;", 7, "const 5, call 4, set 0, get 0, const 1, store 8, get 0, const 3, store 12,"
            + "get 0, const 3, store 16, get 0, const 5, store 20, get 0, const 7, store 24, get 0, end");
        both("def f = fun a b c d -> a;", 6, "const 2, call 4, set 0, get 0, const 1, store 8, get 0, const 9, store 12, get 0, end");
        both("def f = f;", 6, "call 6, end");
    }

    /** k = 0: the function is called at each atom. */
    private static void definitionsWithoutParameters() {
        both("def k = 1; def f = k;", 7, "call 6, end");
        both("def k = fun x -> x; def f = k 1;", 8, "call 6, const 3, call 5, end");
        both("def k = 1; def f = (k, k);", 7, "call 6, call 6, call 3, end");
    }

    /** "for each i below k - 1: get 0, load 16 + 4 * i, call dup; then get 0, call drop, get 1, call f; end" */
    private static void wrappersOfEachNumber() {
        both("def f a = a;", 7, "get 0, call 1, get 1, call 6, end");
        both("def f a b = a;", 7, "get 0, load 16, call 0, get 0, call 1, get 1, call 6, end");
        both("def f a b c d = a;", 7, "get 0, load 16, call 0, get 0, load 20, call 0, get 0, load 24, call 0, get 0, call 1,"
            + "get 1, call 6, end");
        Wasmhall hall = Kit.made("def f a b = a;", 0);
        KIT.due("a wrapper has two parameters", hall.functionAt(0, 7, 1), 2);
        KIT.due("and no locals", hall.functionAt(0, 7, 2), 0);
        KIT.due("APPLY has two", hall.functionAt(0, 5, 2), 2);
    }

    /** "for each parameter that does not stand in its body, by numbers: get, call drop" */
    private static void parametersThatDoNotStand() {
        both("def f a b c d = 1;", 6, "get 0, call 1, get 1, call 1, get 2, call 1, get 3, call 1, const 3, end");
        both("def f a b c d = b + d;", 6, "get 0, call 1, get 2, call 1, get 1, get 3, add, const 1, sub, end");
        both("def f a b = let a = b in a;", 6, "get 0, call 1, get 1, set 2, get 2, end");
        both("def f a b = fun a -> b;", 7, "get 1, call 1, get 0, end");
        both("def f = fun a b c -> b;", 7, "get 0, call 1, get 2, call 1, get 1, end");
    }

    /** "for each name of the other one that is not its own and not in N, by numbers: get, call drop" */
    private static void dropsOfBranches() {
        String test = "get 3, const 2, and, if, ";
        both("def f a b c x = if x then [a] else [b, c];", 6, test + "get 1, call 1, get 2, call 1, get 0, const 2, call 2, else,"
            + "get 0, call 1, get 1, get 2, const 2, call 2, call 2, end, end");
        both("def f a b c x = if x then [c, b, a] else [];", 6, test + "get 2, get 1, get 0, const 2, call 2, call 2, call 2, else,"
            + "get 0, call 1, get 1, call 1, get 2, call 1, const 2, end, end");
        // What is needed behind the if is not dropped: b.
        both("def f a b c x = (if x then a else b, [b, c]);", 6, test + "get 0, else, get 0, call 1, get 1, call 0, end,"
            + "get 1, get 2, const 2, call 2, call 2, call 3, end");
        // Names of both are dropped by none.
        both("def f a b c x = if x then [a, b, c] else [c, b, a];", 6, test + "get 0, get 1, get 2, const 2, call 2, call 2,"
            + "call 2, else, get 2, get 1, get 0, const 2, call 2, call 2, call 2, end, end");
        // Within a test the names of both branches are needed.
        both("def f a b = if a < b then a else b;", 6, "get 0, call 0, get 1, call 0, lt_s, const 1, shl, const 1, add, const 2,"
            + "and, if, get 1, call 1, get 0, else, get 0, call 1, get 1, end, end");
    }

    /** The names of a branch are none of the other one's. */
    private static void namesOfBranches() {
        both("def f a l = case l of [] -> [a] | h : t -> h : t end;", 6, "get 1, tee 2, const 2, eq, if, get 0, const 2, call 2,"
            + "else, get 0, call 1, get 2, load 8, call 0, set 3, get 2, load 12, call 0, set 4, get 2, call 1, get 3, get 4,"
            + "call 2, end, end");
        both("def f a l = (case l of [] -> 1 | a : l -> a end) + a;", 6, "get 1, tee 2, const 2, eq, if, const 3, else,"
            + "get 2, load 8, call 0, set 3, get 2, call 1, get 3, end, get 0, add, const 1, sub, end");
        both("def f a x = if x then let b = a in b else 1;", 6, "get 1, const 2, and, if, get 0, set 2, get 2, else, get 0, call 1,"
            + "const 3, end, end");
    }

    /** "An exp in ( ) is the exp itself." */
    private static void bracketsAreNothing() {
        String[][] pairs = {{"def f a = ((a)) + ((1));", "def f a = a + 1;"}, {"def g a b = a; def f = ((g)) (1) ((2));",
            "def g a b = a; def f = g 1 2;"}, {"def f l = (case (l) of [] -> (1) | h : t -> ((h)) end);",
            "def f l = case l of [] -> 1 | h : t -> h end;"}, {"def f x = (f (x));", "def f x = f x;"},
            {"def f x = if (x) then (f (no)) else ((1));", "def f x = if x then f no else 1;"},
            {"def f = (fun a -> (a));", "def f = fun a -> a;"}, {"def f = (let a = (1) in (a));", "def f = let a = 1 in a;"}};
        for (String[] pair : pairs) {
            for (int level = 0; level < 2; level++) {
                Wasmhall hall = new Wasmhall();
                Kit.loaded(hall, pair[0]);
                Kit.loaded(hall, pair[1]);
                hall.make(0, level);
                hall.make(1, level);
                KIT.due(pair[0] + " is the same as " + pair[1], hall.same(0, 1), true);
            }
        }
    }

    /** "an operation both sides of which are NUMBERS ... becomes its value" */
    private static void foldingGoesRound() {
        code("def f = 1 + 2 - 4;", 1, 6, "const -1, end");
        code("def f = 2 * (0 - 3);", 1, 6, "const -11, end");
        code("def f = (0 - 7) / 2;", 1, 6, "const -5, end");
        code("def f = (0 - 7) % 2;", 1, 6, "const -1, end");
        code("def f = 999999999 + 73741824 + 1;", 1, 6, "const -2147483647, end");
        code("def f = 999999999 * 999999999;", 1, 6, "const 1616697347, end");
        code("def f = (0 - 536870912 - 536870912) / (0 - 1);", 1, 6, "const -2147483647, end");
        code("def f = (1 < 2, (2 <= 1, 0 - 1 == 1 - 2));", 1, 6, "const 3, const 1, const 3, call 3, call 3, end");
        code("def f a = a + 1 + 2;", 1, 6, "get 0, const 3, add, const 1, sub, const 5, add, const 1, sub, end");
        code("def f a = 1 + 2 + a + 3;", 1, 6, "const 7, get 0, add, const 1, sub, const 7, add, const 1, sub, end");
        code("def f a = 2 * 3 + a * (4 - 1);", 1, 6, "const 13, get 0, const 1, sub, const 7, const 1, shr_s, mul, const 1, add,"
            + "add, const 1, sub, end");
        code("def f = [(1 + 1, 2 * 2)];", 1, 6,
            "const 5, const 9, call 3, const 2, call 2, end");
    }

    /** "but / and % by 0 stay" */
    private static void foldingLeavesDivisionsBy0() {
        code("def f = 1 / 0;", 1, 6, "const 3, const 1, shr_s, const 1, const 1, shr_s, div_s, const 1, shl, const 1, add, end");
        code("def f = 1 % 0;", 1, 6, "const 3, const 1, shr_s, const 1, const 1, shr_s, rem_s, const 1, shl, const 1, add, end");
        code("def f = 1 / 1;", 1, 6, "const 3, end");
        code("def f = 1 / (1 - 1) + 2;", 1, 6, "const 3, const 1, shr_s, const 1, const 1, shr_s, div_s, const 1, shl, const 1,"
            + "add, const 5, add, const 1, sub, end");
        code("def f = 4 * 2 / 0 * 3;", 1, 6, "const 17, const 1, shr_s, const 1, const 1, shr_s, div_s, const 1, shl, const 1,"
            + "add, const 1, sub, const 7, const 1, shr_s, mul, const 1, add, end");
        code("def f = 0 / 5;", 1, 6, "const 1, end");
    }

    /** "an if with yes or no as its test becomes the one that is chosen" */
    private static void foldingTestsAndIfs() {
        code("def f = if yes then 1 else 2;", 1, 6, "const 3, end");
        code("def f = if no then 1 else 2;", 1, 6, "const 5, end");
        code("def f = if yes then 1 else 2;", 0, 6, "const 3, const 2, and, if, const 3, else, const 5, end, end");
        code("def f = if 1 + 1 == 2 then if 2 < 1 then 1 else 2 else 3;", 1, 6, "const 5, end");
        code("def f = if if yes then no else yes then 1 else 2;", 1, 6, "const 5, end");
        code("def f = (if 1 < 2 then 3 else 4) + 5;", 1, 6, "const 17, end");
        code("def f = 1 / (if yes then 0 else 1);", 1, 6, "const 3, const 1, shr_s, const 1, const 1, shr_s, div_s, const 1,"
            + "shl, const 1, add, end");
        code("def f a = if a then 1 + 1 else 2 + 2;", 1, 6, "get 0, const 2, and, if, const 5, else, const 9, end, end");
        code("def f = if (let a = yes in a) then 1 else 2;", 1, 6, "const 3, set 0, get 0, const 2, and, if, const 3, else,"
            + "const 5, end, end");
        // A branch that is an if itself has an end less.
        code("def f a = if yes then if a then 1 else 2 else 3;", 1, 6, "get 0, const 2, and, if, const 3, else, const 5, end, end");
    }

    /** "(Names and funs in what is left out are there no more.)" */
    private static void whatIsLeftOut() {
        code("def f a = if yes then 1 else a;", 1, 6, "get 0, call 1, const 3, end");
        code("def f a = let b = a in if no then b else 1;", 1, 6, "get 0, call 1, const 3, end");
        code("def f a b = (a, if no then a else b);", 1, 6, "get 0, get 1, call 3, end");
        code("def f a b = fun c -> if no then a else b;", 1, 6, "get 0, call 1, const 3, call 4, set 2, get 2, const 3, store 8,"
            + "get 2, const 3, store 12, get 2, get 1, store 16, get 2, end");
        code("def f a b x = if x then (if no then a else 1) else b;", 1, 6, "get 0, call 1, get 2, const 2, and, if, get 1, call 1,"
            + "const 3, else, get 1, end, end");
        Wasmhall hall = Kit.made("def g a = a; def f = if no then [(fun a b c -> a, g)] else [];", 1);
        KIT.due("no function of the fun", hall.moduleAt(0, 2), 4);
        KIT.due("types without it", hall.moduleAt(0, 0), 4);
        KIT.due("no hidden locals", hall.functionAt(0, 7, 2), 0);
        KIT.due("one entry", hall.moduleAt(0, 3), 1);
    }

    /** "its parts ahead of it": what is chosen may be the first atom of a use. */
    private static void foldingAheadOfUses() {
        code("def g a b = a; def f = (if 1 < 2 then g else g) 3 4;", 1, 7, "const 7, const 9, call 6, end");
        code("def g a b = a; def f = (if 1 < 2 then g 3 else g 5) 4;", 1, 7, "const 3, call 4, set 0, get 0, const 1, store 8,"
            + "get 0, const 3, store 12, get 0, const 7, store 16, get 0, const 9, call 5, end");
        code("def g a = a; def f x = if no then 1 else f (g x);", 1, 7, "loop 127, get 0, call 6, set 0, br 0, end, end");
        code("def f x = (if yes then f else f) x;", 1, 6, "loop 127, get 0, set 0, br 0, end, end");
    }

    /** "in the LAST PLACE of its own body (the body; of a let the exp behind in, of an if both, of a case its branches ...)" */
    private static void lastPlaces() {
        code("def f a b c d = f d c b a;", 1, 6, "loop 127, get 3, get 2, get 1, get 0, set 3, set 2, set 1, set 0, br 0, end, end");
        code("def f a = let b = a in f b;", 1, 6, "loop 127, get 0, set 1, get 1, set 0, br 0, end, end");
        code("def f a = if a then f no else f yes;", 1, 6, "loop 127, get 0, const 2, and, if, const 1, set 0, br 1, else, const 3,"
            + "set 0, br 1, end, end, end");
        code("def f l = case l of [] -> f [] | h : t -> f t end;", 1, 6, "loop 127, get 0, tee 1, const 2, eq, if, const 2, set 0,"
            + "br 1, else, get 1, load 12, call 0, set 2, get 1, call 1, get 2, set 0, br 1, end, end, end");
        code("def f p = case p of (a, b) -> f (b, a) end;", 1, 6, "loop 127, get 0, set 1, get 1,"
            + "load 8, call 0, set 2, get 1, load 12, call 0, set 3, get 1, call 1, get 3, get 2, call 3, set 0, br 0, end, end");
        // The drops of parameters stand within the loop.
        code("def f a b = f b 1;", 1, 6, "loop 127, get 0, call 1, get 1, const 3, set 1, set 0, br 0, end, end");
        // Both within one another, and the same use in a place that is not the last one.
        code("def f a = let b = f a in if b < 1 then f b else f (f b);", 1, 6, "loop 127, get 0, call 6, set 1, get 1, call 0,"
            + "const 3, lt_s, const 1, shl, const 1, add, const 2, and, if, get 1, set 0, br 1, else, get 1, call 6, set 0,"
            + "br 1, end, end, end");
    }

    private static void noLastPlaces() {
        String[] texts = {"def f a = f a + 1;", "def f a = [case f a of [] -> 1 | h : t -> h end];", "def f a = let b = f a in b;",
            "def f a = if f a then yes else no;", "def f a = case f a of [] -> [] | h : t -> t end;",
            "def f a = fun b -> f a b;", "def f a b = (f a) b;", "def f a = 1 : f a;", "def f a = 1 < (if f a then 1 else 2);",
            "def f = f;", "def g a = a; def f a = g (f a);", "def f a = let g = f in g a;",
            "def f a = let c = fun b -> f b in 1;", "def f a = case (f a, 1) of (x, y) -> y end;"};
        for (String text : texts) {
            Wasmhall hall = Kit.made(text, 1);
            KIT.due("loops of " + text, hall.countOf(0, 3), 1);
            KIT.due("br of " + text, hall.countOf(0, 12), 0);
        }
        // As many atoms as parameters: with fewer a cell is made. (With more no type can be found in a last place.)
        code("def f a b = let g = f a in 1;", 1, 6, "get 1, call 1, const 3, call 4, set 2, get 2, const 1, store 8, get 2,"
            + "const 3, store 12, get 2, get 0, store 16, get 2, call 1, const 3, end");
        KIT.fault(3, "def f a = @f a a;");
        // Beside a loop: a use in the value of a use, of a cell, of a call, or in the first atom, is none in a last place.
        String loop = "get 0, call 0, const 1, lt_s, const 1, shl, const 1, add, const 2, and, if, get 0, set 0, br 1, else, ";
        code("def f n = if n < 0 then f n else (fun x -> x) (f n);", 1, 6, "loop 127, " + loop + "const 2, call 4, set 1, get 1,"
            + "const 3, store 8, get 1, const 3, store 12, get 1, get 0, call 6, call 5, end, end, end");
        code("def g a b = a; def f n = if n < 0 then f n else let h = g (f n) in 1;", 1, 7, "loop 127, " + loop + "const 3, call 4,"
            + "set 1, get 1, const 1, store 8, get 1, const 3, store 12, get 1, get 0, call 7, store 16, get 1, call 1, const 3,"
            + "end, end, end");
        code("def g a = a; def f n = if n < 0 then f n else g (f n);", 1, 7, "loop 127, " + loop + "get 0, call 7, call 6, end, end,"
            + "end");
        code("def f n = if n < 0 then f n else (case f n of [] -> fun x -> [1] | h : t -> fun x -> t end) (f n);", 1, 6, "loop 127, "
            + "get 0, call 0, const 1, lt_s, const 1, shl, const 1, add, const 2, and, if, get 0, set 0, br 1, else, get 0, call 0,"
            + "call 6, tee 1, const 2, eq, if, const 2, call 4, set 2, get 2, const 3, store 8, get 2, const 3, store 12, get 2,"
            + "else, get 1, load 12, call 0, set 3, get 1, call 1, const 3, call 4, set 4, get 4, const 5, store 8, get 4, const 3,"
            + "store 12, get 4, get 3, store 16, get 4, end, get 0, call 6, call 5, end, end, end");
        Wasmhall first = Kit.made("def f n = if n < 0 then f n else let k = (case [] of [] -> f n | h : t -> h end) 5 in"
            + " fun x -> x + k;", 1);
        KIT.due("br of a use in a first atom", first.countOf(0, 12), 1);
        KIT.due("calls of it", Kit.code(first, 0, 6).contains("32:0 16:6"), true);
        // A use of another definition in a last place is a call.
        code("def g a = a; def f a = g a;", 1, 7, "get 0, call 6, end");
        code("def f a = f a;", 0, 6, "get 0, call 6, end");
    }

    /** "br to the loop": as many blocks out as there are ifs around. */
    private static void loopsInIfs() {
        StringBuilder text = new StringBuilder("def f a = ");
        StringBuilder due = new StringBuilder("loop 127, ");
        for (int i = 0; i < 9; i++) {
            text.append("if a < ").append(i).append(" then ").append(i).append(" else ");
            due.append("get 0, call 0, const ").append(2 * i + 1).append(", lt_s, const 1, shl, const 1, add, const 2, and, if,"
                + "get 0, call 1, const ").append(2 * i + 1).append(", else, ");
        }
        text.append("f a;");
        due.append("get 0, set 0, br 9, ").append("end, ".repeat(9)).append("end, end");
        code(text.toString(), 1, 6, due.toString());
    }

    /** "level: 0 or 1" */
    private static void levels() {
        Wasmhall hall = new Wasmhall();
        Kit.loaded(hall, "def f a = f (1 + 1);");
        KIT.refused(hall, "make(0, -1)", IllegalArgumentException.class, () -> hall.make(0, -1));
        KIT.refused(hall, "make(0, 2)", IllegalArgumentException.class, () -> hall.make(0, 2));
        KIT.due("make(0, 0)", hall.make(0, 0), 0);
        KIT.due("make(0, 1)", hall.make(0, 1), 1);
        KIT.due("they are not the same", hall.same(0, 1), false);
        KIT.due("make(0, 1) again", hall.make(0, 1), 2);
        KIT.due("that is the same", hall.same(1, 2), true);
    }

    /** "IllegalStateException if there are 8 modules" */
    private static void eightModules() {
        Wasmhall hall = new Wasmhall();
        Kit.loaded(hall, "def f = 1;");
        for (int i = 0; i < 8; i++) {
            KIT.due("make()", hall.make(0, i % 2), i);
        }
        KIT.refused(hall, "a 9th make()", IllegalStateException.class, () -> hall.make(0, 0));
        KIT.refused(hall, "no level comes first", IllegalArgumentException.class, () -> hall.make(0, 2));
        KIT.refused(hall, "no program comes first", IndexOutOfBoundsException.class, () -> hall.make(1, 2));
        KIT.due("agree() needs no room", hall.agree(0, 0, 1, 0, 0, 0), 1);
        hall.clearModules();
        KIT.due("make() again", hall.make(0, 0), 0);
    }

    /** A text up to 800 bytes: its beginning, something again and again, its end. */
    private static String filled(String begin, String again, String end) {
        StringBuilder text = new StringBuilder(begin);
        while (text.length() + again.length() + end.length() <= 800) {
            text.append(again);
        }
        return text.append(end).toString();
    }

    /** What is made stays below the bounds of what is read, also of the texts that make the most of something. */
    private static void densestTexts() {
        largest(filled("def f x=x", "/x", ";"), 6, 3, 4347);
        largest(filled("def f x=x;def g=[f", ",f", "];"), 7, 2, 391);
        largest(filled("def f x=[fun a->1", ",fun a->1", "];"), 6, 2, 87);
        String names = "";
        String funs = "def f";
        for (int i = 0; i < 44; i++) {
            String name = (char) ('a' + i / 4) + "" + i % 4;
            String ahead = i == 0 || i % 4 != 0 ? " " : i == 4 ? "=fun " : "->fun ";
            funs += ahead + name;
            names += (i > 0 ? "+" : "") + name;
        }
        largest(funs + "->" + names + ";", 16, 1, 44);
    }

    private static void largest(String text, int function, int what, int due) {
        for (int level = 0; level < 2; level++) {
            Wasmhall hall = Kit.made(text, level);
            KIT.due("functionAt(0, " + function + ", " + what + ") of " + text, hall.functionAt(0, function, what), due);
            hall.write(0);
            KIT.due("read() of " + text, hall.read(), 1);
            KIT.due("same() of " + text, hall.same(0, 1), true);
            KIT.due("errors() of " + text, hall.errors(), 0);
        }
    }

    /** "what: 0 its types ... 8 at most" */
    private static void questionsOfModules() {
        Wasmhall hall = Kit.made("def f a b c = fun d -> a;", 0);
        int[] due = {5, 5, 5, 2, 1, 0, 1, 1, 8};
        due[5] = hall.write(0);
        for (int what = 0; what < 9; what++) {
            KIT.due("moduleAt(0, " + what + ")", hall.moduleAt(0, what), due[what]);
        }
        KIT.refused(hall, "moduleAt(0, -1)", IllegalArgumentException.class, () -> hall.moduleAt(0, -1));
        KIT.refused(hall, "moduleAt(0, 9)", IllegalArgumentException.class, () -> hall.moduleAt(0, 9));
        KIT.refused(hall, "moduleAt(1, 9)", IndexOutOfBoundsException.class, () -> hall.moduleAt(1, 9));
        KIT.refused(hall, "moduleAt(-1, 0)", IndexOutOfBoundsException.class, () -> hall.moduleAt(-1, 0));
        Wasmhall bare = Kit.read(Bytes.head());
        for (int what = 0; what < 9; what++) {
            KIT.due("moduleAt(0, " + what + ") of a head", bare.moduleAt(0, what), what == 5 ? 26 : 0);
        }
    }

    /** "function: number of a function, imports count"; "(2, 3: 0 of an import)" */
    private static void questionsOfFunctions() {
        Wasmhall hall = Kit.made("def f a = [a];", 0);
        int[][] due = {{1, 1, 0, 0}, {3, 1, 0, 0}, {2, 2, 0, 0}, {2, 2, 0, 0}, {1, 1, 0, 0}, {2, 2, 2, 61}, {1, 1, 0, 4},
            {2, 2, 0, 5}};
        for (int f = 0; f < due.length; f++) {
            for (int what = 0; what < 4; what++) {
                KIT.due("functionAt(0, " + f + ", " + what + ")", hall.functionAt(0, f, what), due[f][what]);
            }
        }
        KIT.refused(hall, "function -1", IndexOutOfBoundsException.class, () -> hall.functionAt(0, -1, 0));
        KIT.refused(hall, "function 8", IndexOutOfBoundsException.class, () -> hall.functionAt(0, 8, -1));
        KIT.refused(hall, "what -1", IllegalArgumentException.class, () -> hall.functionAt(0, 7, -1));
        KIT.refused(hall, "what 4", IllegalArgumentException.class, () -> hall.functionAt(0, 0, 4));
        KIT.refused(hall, "module 1", IndexOutOfBoundsException.class, () -> hall.functionAt(1, 0, 4));
    }

    /** "1 what stands with it: of block, loop, if 64 or 127, ...; NONE if nothing does" */
    private static void questionsOfInstructions() {
        int[] body = Bytes.join(Bytes.of(2, 64, 3, 64, 65, 0, 4, 127), Bytes.word(-7), Bytes.of(5), Bytes.word(300),
            Bytes.of(11, 26, 65, 0, 13, 1, 11, 11, 2, 127, 65, 5, 12, 0, 11, 33, 1, 32, 1, 34, 0),
            Bytes.of(40, 2, 0xfe, 0xff, 0xff, 0xff, 15, 26, 65, 0, 65, 1, 54, 2, 7, 63, 0, 64, 0, 16, 0),
            Bytes.of(65, 9, 65, 0, 17, 1, 0, 1, 0, 15));
        Wasmhall hall = Kit.read(Bytes.module(Bytes.section(1, Bytes.row(Bytes.type(1, 1), Bytes.type(1, 0), Bytes.type(0, 0))),
            Bytes.section(2, Bytes.row(Bytes.imported("drop", 1))), Bytes.section(3, Bytes.of(1, 2)), Bytes.table(1),
            Bytes.memory(1, 1), Bytes.section(10, Bytes.row(Bytes.code(2, body)))));
        int[][] due = {{2, 64}, {3, 64}, {65, 0}, {4, 127}, {65, -7}, {5, -1}, {65, 300}, {11, -1}, {26, -1}, {65, 0}, {13, 1},
            {11, -1}, {11, -1}, {2, 127}, {65, 5}, {12, 0}, {11, -1}, {33, 1}, {32, 1}, {34, 0}, {40, -2}, {26, -1}, {65, 0},
            {65, 1}, {54, 7}, {63, -1}, {64, -1}, {16, 0}, {65, 9}, {65, 0}, {17, 1}, {1, -1}, {0, -1}, {15, -1}, {11, -1}};
        KIT.due("the instructions", hall.functionAt(0, 1, 3), due.length);
        for (int i = 0; i < due.length; i++) {
            KIT.due("opAt(0, 1, " + i + ", 0)", hall.opAt(0, 1, i, 0), due[i][0]);
            KIT.due("opAt(0, 1, " + i + ", 1)", hall.opAt(0, 1, i, 1), due[i][1]);
        }
        KIT.refused(hall, "an instruction behind the end", IndexOutOfBoundsException.class, () -> hall.opAt(0, 1, 35, 0));
        KIT.refused(hall, "instruction -1", IndexOutOfBoundsException.class, () -> hall.opAt(0, 1, -1, 2));
        KIT.refused(hall, "an import", IndexOutOfBoundsException.class, () -> hall.opAt(0, 0, 0, 0));
        KIT.refused(hall, "function 2", IndexOutOfBoundsException.class, () -> hall.opAt(0, 2, 0, 2));
        KIT.refused(hall, "function -1", IndexOutOfBoundsException.class, () -> hall.opAt(0, -1, 0, 0));
        KIT.refused(hall, "module 1", IndexOutOfBoundsException.class, () -> hall.opAt(1, 1, 0, 0));
        KIT.refused(hall, "what -1", IllegalArgumentException.class, () -> hall.opAt(0, 1, 34, -1));
        KIT.refused(hall, "what 2", IllegalArgumentException.class, () -> hall.opAt(0, 1, 0, 2));
    }

    /** "code: 0 to 255" */
    private static void countsOfInstructions() {
        Wasmhall hall = Kit.made("def f = 1;", 0);
        KIT.due("countOf(0, 0)", hall.countOf(0, 0), 0);
        KIT.due("countOf(0, 255)", hall.countOf(0, 255), 0);
        KIT.due("countOf(0, 65)", hall.countOf(0, 65), 10);
        KIT.due("countOf(0, 11)", hall.countOf(0, 11), 4);
        KIT.refused(hall, "countOf(0, -1)", IllegalArgumentException.class, () -> hall.countOf(0, -1));
        KIT.refused(hall, "countOf(0, 256)", IllegalArgumentException.class, () -> hall.countOf(0, 256));
        KIT.refused(hall, "countOf(1, 256)", IndexOutOfBoundsException.class, () -> hall.countOf(1, 256));
        KIT.refused(hall, "countOf(-1, 0)", IndexOutOfBoundsException.class, () -> hall.countOf(-1, 0));
    }
}
