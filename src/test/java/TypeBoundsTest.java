/** The bounds that section 3 of the document names, and those of promises 7 to 11: on both sides, each on its own. */
public final class TypeBoundsTest {
    private static final Kit KIT = new Kit();
    /** u has the type a; v 50 variables and 49 pairs, which are 99 PARTS; w 4 variables and 3 pairs, which are 7. */
    private static final String FIFTY = "def u = u; def s = (u, (u, (u, (u, u)))); def t = (s, s); def v = ((t, t), (t, (t, t)));"
        + " def w = ((u, u), (u, u));";

    public static void main(String[] args) {
        unlikeSorts();
        variableWithin();
        atBody();
        atExpsOfLists();
        atAtomsOfUses();
        atSidesOfOperations();
        atRestOfCells();
        atTestsAndBranches();
        atWhatCasesLookAt();
        atOutermostBrackets();
        theFirstOneCounts();
        ownTypeWithinABody();
        newVariablesInLaterDefinitions();
        oneTypeForALet();
        hundredPartsOfAnExp();
        hundredPartsOfEachSort();
        hundredPartsOfADefinition();
        hundredPartsOfNames();
        partsCountTwice();
        partsOfAUse();
        howTypesAreWritten();
        variablesBehindZ();
        outputs();
        KIT.end();
    }

    private static void type(String text, String due) {
        Wasmhall hall = new Wasmhall();
        Kit.put(hall, text);
        KIT.due("faultKind of " + text, hall.faultKind(), 0);
        int program = hall.load();
        int last = hall.definitions(program) - 1;
        KIT.due("typeOf of " + text, hall.typeOf(program, last), due.length());
        KIT.due("the type of " + text, Kit.output(hall), due);
    }

    /** "it cannot be done if two of unlike sorts would have to be the same" */
    private static void unlikeSorts() {
        String[] sorts = {"1", "yes", "[u]", "(u, u)", "(fun x -> u)"};
        for (int i = 0; i < sorts.length; i++) {
            for (int k = 0; k < sorts.length; k++) {
                KIT.fault(3, "def u = u; def f = [" + sorts[i] + ", " + (i == k ? "" : "@") + sorts[k] + "];");
            }
            KIT.good("def u = u; def f = [u, " + sorts[i] + ", u, " + sorts[i] + "];");
        }
        KIT.fault(3, "def f = [(1, yes), @(1, 1)];");
        KIT.fault(3, "def f = [[[1]], @[[yes]]];");
        KIT.fault(3, "def f = [fun a -> a + 1, @fun a -> a < 1];");
    }

    /** "or a variable stands within what would stand in its place" */
    private static void variableWithin() {
        KIT.fault(3, "def f x = [x, @[x]];");
        KIT.fault(3, "def f x = [x, @(1, x)];");
        KIT.fault(3, "def f x = [x, @fun y -> x];");
        KIT.fault(3, "def f x = x @x;");
        KIT.fault(3, "def f x y = [(x, y), @(y, [x])];");
        KIT.good("def f x y = [(x, y), (y, x)];");
        KIT.good("def f x = [x, x];");
        // The same behind definitions with many types of their own.
        KIT.fault(3, FIFTY + "def g x y = [[(x, [y])], [([y], x)]]; def f x y = [(x, y), @(y, [x])];");
        KIT.fault(3, FIFTY + "def g x y z = [[[x], [[y]]], z]; def h x = [x]; def f x = [x, @[x]];");
        KIT.good("def f x y = [(x, [y]), (x, [y]), (y, [x])];");
    }

    /** "The body is found, then made the same as r AT the body." */
    private static void atBody() {
        KIT.fault(3, "def f x = @f;");
        KIT.fault(3, "def f = @[f];");
        KIT.fault(3, "def f = @fun x -> f;");
        KIT.fault(3, "def f x = @let y = f x in [y];");
        KIT.good("def f = f;");
        KIT.good("def f x = f x;");
    }

    /** "[ .. ]: a new variable; each exp is found, then made the same as it AT this exp." */
    private static void atExpsOfLists() {
        KIT.good("def f = [];");
        KIT.fault(3, "def f = [1, 2, @yes];");
        KIT.fault(3, "def f = [1, @yes, 2 + no];");
        KIT.fault(3, "def f = [1, 2 + @no, yes];");
    }

    /** "then the type so far is made the same as its type -> a new variable AT this atom" */
    private static void atAtomsOfUses() {
        KIT.fault(3, "def f = 1 @2;");
        KIT.fault(3, "def g x y = x + y; def f = g 1 @yes 2;");
        KIT.fault(3, "def g x y = x + y; def f = g 1 2 @3;");
        KIT.fault(3, "def g x y = x + y; def f = g @yes (1 + yes);");
        KIT.fault(3, "def g x y = x + y; def f = g 1 (1 + @yes);");
        KIT.fault(3, "def f g = g 1 + g @yes;");
        KIT.fault(3, "def f = yes (1 @2);");
        KIT.good("def i x = x; def f = i i i i 1;");
    }

    /** "the left side is found, and made num AT it; then the right side likewise" */
    private static void atSidesOfOperations() {
        for (String sign : new String[] {"+", "-", "*", "/", "%", "<", "<=", "=="}) {
            KIT.fault(3, "def f = @yes " + sign + " 1;");
            KIT.fault(3, "def f = 1 " + sign + " @yes;");
            KIT.fault(3, "def f = @yes " + sign + " no;");
            KIT.fault(3, "def f = @[] " + sign + " (1 + yes);");
            type("def f = 1 " + sign + " 2;", sign.charAt(0) == '<' || sign.equals("==") ? "truth" : "num");
        }
        KIT.fault(3, "def f = 1 + 2 + @yes;");
        KIT.fault(3, "def f = 1 + 2 * @yes;");
        KIT.fault(3, "def f = @1 : [] < 2;");
        KIT.fault(3, "def f = 1 < @2 : [];");
        KIT.fault(3, "def f = 1 - @(fun x -> x);");
    }

    /** "e : f: both are found; then f is made the list of the type of e AT f." */
    private static void atRestOfCells() {
        KIT.fault(3, "def f = 1 : @2;");
        KIT.fault(3, "def f = 1 : @[yes];");
        KIT.fault(3, "def f = yes : 1 : @yes;");
        KIT.fault(3, "def f = yes : @1 : [];");
        KIT.fault(3, "def f = 1 : @yes : [no];");
        KIT.fault(3, "def f = 1 : yes : [1 + @no];");
        KIT.fault(3, "def f = 1 : (1 @2) : [];");
        KIT.fault(3, "def f = 1 : @(1 : []) : [];");
        KIT.good("def f = [1] : (1 : []) : [];");
    }

    /** "the test is found, and made truth AT it; both others are found; then the last one is made the same ... AT the last one" */
    private static void atTestsAndBranches() {
        KIT.fault(3, "def f = if @1 then 1 else yes;");
        KIT.fault(3, "def f = if @1 then 1 + yes else 2;");
        KIT.fault(3, "def f = if yes then 1 else @yes;");
        KIT.fault(3, "def f = if yes then 1 + @no else yes;");
        KIT.fault(3, "def f = if yes then no else 1 + @no;");
        KIT.good("def f = if yes then [] else [1];");
        KIT.fault(3, "def f = case [] of [] -> 1 | h : t -> @t end;");
        KIT.fault(3, "def f = case [1] of [] -> yes | h : t -> @h end;");
        KIT.fault(3, "def f = case [1] of [] -> yes | h : t -> h + @t end;");
    }

    /** "then it is made the list of a new variable AT it ... or it is made the pair of two new variables AT it" */
    private static void atWhatCasesLookAt() {
        KIT.fault(3, "def f = case @(1, 2) of [] -> 1 + yes | h : t -> 2 end;");
        KIT.fault(3, "def f = case @[1] of (a, b) -> 1 + yes end;");
        KIT.fault(3, "def f = case @1 + 2 of (a, b) -> 1 end;");
        KIT.fault(3, "def f p = (case p of (a, b) -> 1 end) + (case @p of [] -> 1 | h : t -> 2 end);");
        type("def f p = case p of (a, b) -> a end;", "(a, b) -> a");
        type("def f l = case l of [] -> [] | h : t -> [(h, t)] end;", "[a] -> [(a, [a])]");
    }

    /** "(of an exp in ( ) always the outermost of its brackets)" */
    private static void atOutermostBrackets() {
        KIT.fault(3, "def f = @(yes) + 1;");
        KIT.fault(3, "def f = @((((yes)))) + 1;");
        KIT.fault(3, "def f = 1 + @((yes));");
        KIT.fault(3, "def f = ((1 + @((yes))));");
        KIT.fault(3, "def f = [1, @(yes)];");
        KIT.fault(3, "def f = 1 @((2));");
        KIT.fault(3, "def f = if @((1)) then 1 else 2;");
        KIT.fault(3, "def f = if yes then 1 else @((let x = 1 in yes));");
        KIT.fault(3, "def f = case @((1)) of (a, b) -> 1 end;");
        KIT.fault(3, "def f x = @((f));");
        KIT.fault(3, "def f = 1 : ((2 : @(yes)));");
        // A use or an operation that begins with a bracket has this as its first token.
        KIT.fault(3, "def f = 1 + @(fun x -> yes) 1;");
        KIT.fault(3, "def f = 1 : @(1) + 2;");
        KIT.fault(3, "def f = [yes, (1) < 2, @(1) + 2];");
    }

    /** "The first one that cannot be done is the fault": definition by definition, from the left to the right. */
    private static void theFirstOneCounts() {
        KIT.fault(3, "def f = 1 + @yes; def g = 1 2;");
        KIT.fault(3, "def f = (1 @2, yes + 1);");
        KIT.fault(3, "def f = let a = 1 @2 in yes + 1;");
        KIT.fault(3, "def f = [1, @yes] 1;");
        KIT.fault(3, "def f = (fun x -> x @x) (1 2);");
        KIT.fault(3, "def g = 1; def f x = (x + 1, x < @yes);");
    }

    /** "within its body it has the type of these (p -> q -> r; r alone without parameters)" */
    private static void ownTypeWithinABody() {
        KIT.fault(3, "def f x = (f 1, f @yes);");
        KIT.fault(3, "def f x y = if x < 1 then [y] else f @[1] 2;");
        KIT.fault(3, "def f x y = @if x < 1 then [y] else [f 1 2];");
        type("def f x = if x < 1 then 1 else f (x - 1);", "num -> num");
        type("def f = [1, case f of [] -> 2 | h : t -> h end];", "[num]");
        type("def f a b c d = f b a d c;", "a -> a -> b -> b -> c");
    }

    /** "each atom that names it in later definitions has new ones in their place" */
    private static void newVariablesInLaterDefinitions() {
        type("def i x = x; def f = (i 1, (i yes, i i 1));", "(num, (truth, num))");
        type("def e = []; def f = (1 : e, yes : e);", "([num], [truth])");
        type("def k x y = x; def f = [k, k];", "[a -> b -> a]");
        type("def k x y = x; def f = (k, k);", "(a -> b -> a, c -> d -> c)");
    }

    /** "let: its exp is found, and is the type of its name (one and the same for all uses)" */
    private static void oneTypeForALet() {
        KIT.fault(3, "def f = let i = fun x -> x in (i 1, i @yes);");
        KIT.fault(3, "def f = let e = [] in (1 : e, yes : @e);");
        KIT.good("def f = let i = fun x -> x in (i 1, i 2);");
        KIT.fault(3, "def i x = x; def f = let j = i in (j 1, j @yes);");
    }

    /** "An exp whose type, when it is found, has more than 100 is a fault AT it" */
    private static void hundredPartsOfAnExp() {
        KIT.good(FIFTY + "def f = v;");
        KIT.good(FIFTY + "def f = [v];");
        KIT.fault(3, FIFTY + "def f = @[[v]];");
        KIT.fault(3, FIFTY + "def f = @([[v]]);");
        KIT.fault(3, FIFTY + "def f = 1 + @[[v]];");
        KIT.fault(3, FIFTY + "def f = let x = @[[v]] in 1;");
        KIT.fault(3, FIFTY + "def f = [1, @[[v]]];");
    }

    /** The same for each sort of exp whose type can be one PART beyond. */
    private static void hundredPartsOfEachSort() {
        // A pair: 1 + 99 + 1.
        KIT.fault(3, FIFTY + "def f = case @(v, u) of (a, b) -> 1 end;");
        KIT.fault(3, FIFTY + "def f = case @(v, 1) of (a, b) -> 1 end;");
        // A function: 1 + 1 + 99; of the names and the value.
        KIT.fault(3, FIFTY + "def f = case [@fun x -> v] of [] -> 1 | h : t -> 2 end;");
        // A cell: 1 + 99 is as much as there may be, 1 + 100 is not.
        KIT.good(FIFTY + "def f = v : [];");
        KIT.good(FIFTY + "def f = v : v : [];");
        KIT.fault(3, FIFTY + "def f = 1 < @[v] : [];");
        KIT.fault(3, FIFTY + "def f = 1 < 2 : @[v] : [];");
        KIT.fault(3, FIFTY + "def f = 1 < u : @[v] : [];");
        // A use, a let, an if, a case have the type of what they give.
        KIT.good(FIFTY + "def i x = [x]; def f = i v;");
        KIT.fault(3, FIFTY + "def i x = [[x]]; def f = 1 + @i v;");
        KIT.fault(3, FIFTY + "def i x = [[x]]; def f = 1 + i @(i v);");
        KIT.fault(3, FIFTY + "def f = 1 + (fun x -> @[[v]]) u;");
    }

    /** "and a definition whose type has more than 100 AT its body, when it is done" */
    private static void hundredPartsOfADefinition() {
        // With a parameter there are two PARTS more: 98 and 99 of v; with two there are four more.
        KIT.good(FIFTY + "def f = v;");
        KIT.good(FIFTY + "def f a = ((t, t), (t, (t, (s, [w]))));");
        KIT.fault(3, FIFTY + "def f a = @v;");
        KIT.fault(3, FIFTY + "def f a = @((v));");
        KIT.fault(3, FIFTY + "def f a = @let b = 1 in v;");
        KIT.good(FIFTY + "def f a b = ((t, t), (t, (t, (s, [(u, (u, u))]))));");
        KIT.fault(3, FIFTY + "def f a b = @((t, t), (t, (t, (s, w))));");
        KIT.good(FIFTY + "def f a b c d = ((t, t), (t, (t, (w, (u, [1])))));");
        KIT.fault(3, FIFTY + "def f a b c d = @((t, t), (t, (t, (w, (u, [[1]])))));");
        KIT.fault(3, FIFTY + "def h g = @g v;");
    }

    /** A name whose type has grown since it was bound is found with all that stands in it: 100 PARTS of x, then 101. */
    private static void hundredPartsOfNames() {
        KIT.fault(3, FIFTY + "def f x = @case x of [] -> 1 | h : t -> let m = [h, v] in (let n = x in 1) end;");
        KIT.fault(3, FIFTY + "def f x = case x of (p, q) -> let m = [p, v] in (let n = @x in 1) end;");
        KIT.fault(3, FIFTY + "def f x = @case x of (p, q) -> let m = [p, v] in (let n = p in 1) end;");
        KIT.fault(3, FIFTY + "def f g = (g v) + (@g v);");
    }

    /** "what stands twice counts twice": p doubles its parameter, and with each one more PART. */
    private static void partsCountTwice() {
        // p^5 of a variable has 63 PARTS, q a = p^5 a with its parameter 65; p^6 has 127.
        KIT.good("def p a = (a, a); def q a = p (p (p (p (p a))));");
        KIT.fault(3, "def p a = (a, a); def q a = @p (p (p (p (p (p a)))));");
        KIT.fault(3, "def p a = (a, a); def q a = [@p (p (p (p (p (p a)))))];");
        KIT.fault(3, "def p a = (a, a); def q a = p (p @(p (p (p (p (p (p 1)))))));");
    }

    /** A use is one exp: what lies between its atoms is none, and may have more PARTS. */
    private static void partsOfAUse() {
        // k v has the PARTS of v and two more.
        KIT.good(FIFTY + "def k x = fun y -> x; def f = k v 1;");
        KIT.fault(3, FIFTY + "def k x = fun y -> x; def f = @(k v) 1;");
        KIT.fault(3, FIFTY + "def k x = fun y -> x; def f = 1 + @k v;");
    }

    /** "num, truth, [t], (t, u), t -> u with t in ( ) if it is itself one of a function" */
    private static void howTypesAreWritten() {
        type("def f = 1;", "num");
        type("def f = yes;", "truth");
        type("def f = [[1]];", "[[num]]");
        type("def f = (1, (yes, [2]));", "(num, (truth, [num]))");
        type("def f = ((1, yes), 2);", "((num, truth), num)");
        type("def f x y = x + y;", "num -> num -> num");
        type("def f g = g 1 + 1;", "(num -> num) -> num");
        type("def f g h = g h 1 + h 1;", "((num -> num) -> num -> num) -> (num -> num) -> num");
        type("def f = [fun x -> (x, fun y -> x + y)];", "[num -> (num, num -> num)]");
        type("def f x = fun g -> g x + 1;", "a -> (a -> num) -> num");
        type("def f = fun a b c d -> b;", "a -> b -> c -> d -> b");
        type("def f a b c d = (d, (c, (b, a)));", "a -> b -> c -> d -> (d, (c, (b, a)))");
    }

    /** "variables by the letters a to z, in the order in which they stand first; then a1 to z1" */
    private static void variablesBehindZ() {
        // 13 pairs of two variables side by side are 26, 14 pairs 28; 50 variables are the most that 100 PARTS can hold.
        type(FIFTY + "def f = (t, (t, s));", chain(0, 25));
        type(FIFTY + "def f = (t, (t, (s, u)));", "(" + tree(0) + ", (" + tree(10) + ", (" + five(20) + ", z)))");
        type(FIFTY + "def f = (t, (t, (s, (u, u))));", "(" + tree(0) + ", (" + tree(10) + ", (" + five(20) + ", (z, a1))))");
        type(FIFTY + "def f = v;", "((" + tree(0) + ", " + tree(10) + "), (" + tree(20) + ", (" + tree(30) + ", " + tree(40)
            + ")))");
        KIT.due("the last letter of 50", letter(49), "x1");
        type(FIFTY + "def f a b = (b, (a, (t, b)));", "a -> b -> (b, (a, (" + tree(2) + ", b)))");
    }

    private static String chain(int first, int many) {
        return many == 25 ? "(" + tree(first) + ", (" + tree(first + 10) + ", " + five(first + 20) + "))" : "";
    }

    private static String tree(int first) {
        return "(" + five(first) + ", " + five(first + 5) + ")";
    }

    private static String five(int first) {
        return "(" + letter(first) + ", (" + letter(first + 1) + ", (" + letter(first + 2) + ", (" + letter(first + 3) + ", "
            + letter(first + 4) + "))))";
    }

    private static String letter(int which) {
        return "" + (char) ('a' + which % 26) + (which < 26 ? "" : "" + which / 26);
    }

    /** "Returns the byte; NONE if there is no such one." */
    private static void outputs() {
        Wasmhall hall = new Wasmhall();
        Kit.loaded(hall, "def f = 1; def g = [];");
        KIT.due("output(0) ahead of any", hall.output(0), -1);
        KIT.due("typeOf(0, 0)", hall.typeOf(0, 0), 3);
        KIT.due("output(-1)", hall.output(-1), -1);
        KIT.due("output(0)", hall.output(0), 'n');
        KIT.due("output(2)", hall.output(2), 'm');
        KIT.due("output(3)", hall.output(3), -1);
        KIT.due("output(MAX)", hall.output(Integer.MAX_VALUE), -1);
        KIT.due("output(MIN)", hall.output(Integer.MIN_VALUE), -1);
        KIT.refused(hall, "typeOf(0, 2)", IndexOutOfBoundsException.class, () -> hall.typeOf(0, 2));
        KIT.due("a shorter output than the one ahead", hall.typeOf(0, 1) + " " + hall.typeOf(0, 0), "3 3");
        hall.mean(0, 0, 0, 0, 0);
        KIT.due("output(0) of 1", hall.output(0), '1');
        KIT.due("nothing is left of num", hall.output(1), -1);
    }
}
