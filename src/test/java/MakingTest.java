/** Promises 14 to 18: modules made of programs. */
public final class MakingTest {
    private static final Kit KIT = new Kit();

    public static void main(String[] args) {
        frames();
        apply();
        plainCode();
        locals();
        cells();
        funs();
        branches();
        uses();
        folding();
        loops();
        questions();
        wrongCalls();
        KIT.end();
    }

    private static Wasmhall made(String text, int level) {
        Wasmhall hall = new Wasmhall();
        Kit.loaded(hall, text);
        hall.make(0, level);
        return hall;
    }

    private static void code(String text, int level, int function, String due) {
        Wasmhall hall = made(text, level);
        KIT.due("function " + function + " of level " + level + " of " + text, Kit.code(hall, 0, function),
            Kit.asm(due));
    }

    private static void question(Wasmhall hall, String due) {
        StringBuilder got = new StringBuilder();
        for (int what = 0; what < 9; what++) {
            got.append(what == 0 ? "" : " ").append(hall.moduleAt(0, what));
        }
        KIT.due("moduleAt(0, 0 to 8)", got.toString(), due);
    }

    private static void frames() {
        question(made("", 0), "4 5 1 0 0 " + (8 + 2 + 20 + 2 + 45 + 2 + 2 + 2 + 4 + 2 + 4 + 2 + 1 + 2 + 6 + 2 + 120)
            + " 1 1 8");
        Wasmhall hall = made("def f a b c = fun d -> a; def g = 1;", 0);
        // Types 0 to 3 and that of drop; APPLY, f, its fun, g, and the wrappers of f and the fun.
        KIT.due("types", hall.moduleAt(0, 0), 5);
        KIT.due("own functions", hall.moduleAt(0, 2), 6);
        KIT.due("entries", hall.moduleAt(0, 3), 2);
        KIT.due("exports", hall.moduleAt(0, 4), 2);
        int[][] due = {{1, 1, 0, 0}, {4, 1, 0, 0}, {2, 2, 0, 0}, {2, 2, 0, 0}, {1, 1, 0, 0}, {2, 2, 2, 61},
            {3, 3, 1, 18}, {2, 2, 0, 4}, {0, 0, 0, 2}, {2, 2, 0, 11}, {2, 2, 0, 8}};
        for (int f = 0; f < due.length; f++) {
            for (int what = 0; what < 4; what++) {
                KIT.due("functionAt(0, " + f + ", " + what + ")", hall.functionAt(0, f, what), due[f][what]);
            }
        }
        hall.write(0);
        String bytes = Kit.bytes(hall);
        KIT.due("the bytes begin so", bytes.substring(0, 24), "0 97 115 109 1 0 0 0 1 2");
        KIT.due("exports f as 6 and g as 8", bytes.contains(" 7 9 2 1 102 0 6 1 103 0 8 9 8 1 0 65 0 11 2 9 10 10 "),
            true);
        KIT.due("table and memory", bytes.contains(" 4 4 1 112 0 2 5 4 1 1 1 8 7 "), true);
        KIT.due("functions", bytes.contains(" 3 7 6 2 3 2 0 2 2 4 "), true);
        KIT.due("imports", bytes.contains(" 2 45 5 1 104 3 100 117 112 0 1 1 104 4 100 114 111 112 0 4"
            + " 1 104 4 108 105 110 107 0 2 1 104 4 112 97 105 114 0 2 1 104 4 114 111 111 109 0 1 3 "), true);
        KIT.due("types in bytes", bytes.contains(" 1 27 5 96 0 1 127 96 1 127 1 127 96 2 127 127 1 127"
            + " 96 3 127 127 127 1 127 96 1 127 0 2 "), true);
    }

    private static void apply() {
        code("", 0, 5, "get 0, load 12, const 3, eq, if, get 0, get 1, get 0, load 8, const 1, shr_u, call_indirect 2,"
            + "else, get 0, load 4, const 2, shr_u, tee 3, const 1, add, call 4, set 2,"
            + "get 2, get 3, const 2, shl, add, get 1, store 8,"
            + "loop 64, get 3, const 1, sub, set 3, get 2, get 3, const 2, shl, add,"
            + "get 0, get 3, const 2, shl, add, load 8, call 0, store 8, get 3, br_if 0, end,"
            + "get 2, get 0, load 12, const 2, sub, store 12, get 0, call 1, get 2, end, end");
    }

    private static void plainCode() {
        code("def f = 5;", 0, 6, "const 11, end");
        code("def f = 999999999;", 0, 6, "const 1999999999, end");
        code("def f = yes;", 0, 6, "const 3, end");
        code("def f = no;", 0, 6, "const 1, end");
        code("def f = [];", 0, 6, "const 2, end");
        code("def f = [1, 2];", 0, 6, "const 3, const 5, const 2, call 2, call 2, end");
        code("def f = 1 : 2 : [];", 0, 6, "const 3, const 5, const 2, call 2, call 2, end");
        code("def f = (1, 2);", 0, 6, "const 3, const 5, call 3, end");
        code("def f = 1 + 2;", 0, 6, "const 3, const 5, add, const 1, sub, end");
        code("def f = 1 - 2 + 3;", 0, 6, "const 3, const 5, sub, const 1, add, const 7, add, const 1, sub, end");
        code("def f = 1 * 2;", 0, 6, "const 3, const 1, sub, const 5, const 1, shr_s, mul, const 1, add, end");
        code("def f = 1 / 2;", 0, 6, "const 3, const 1, shr_s, const 5, const 1, shr_s, div_s, const 1, shl,"
            + "const 1, add, end");
        code("def f = 1 % 2;", 0, 6, "const 3, const 1, shr_s, const 5, const 1, shr_s, rem_s, const 1, shl,"
            + "const 1, add, end");
        code("def f = 1 < 2;", 0, 6, "const 3, const 5, lt_s, const 1, shl, const 1, add, end");
        code("def f = 1 <= 2;", 0, 6, "const 3, const 5, le_s, const 1, shl, const 1, add, end");
        code("def f = 1 == 2;", 0, 6, "const 3, const 5, eq, const 1, shl, const 1, add, end");
        code("def f = 1 - (2 - 3);", 0, 6, "const 3, const 5, const 7, sub, const 1, add, sub, const 1, add, end");
    }

    private static void locals() {
        code("def f x = x;", 0, 6, "get 0, end");
        code("def f x = 1;", 0, 6, "get 0, call 1, const 3, end");
        code("def f a b c = b;", 0, 6, "get 0, call 1, get 2, call 1, get 1, end");
        code("def f x = (x, x);", 0, 6, "get 0, call 0, get 0, call 3, end");
        code("def f x = let y = x in (y, (x, y));", 0, 6,
            "get 0, call 0, set 1, get 1, call 0, get 0, get 1, call 3, call 3, end");
        code("def f x = let y = x in 1;", 0, 6, "get 0, call 1, const 3, end");
        code("def f x = let x = x in x;", 0, 6, "get 0, set 1, get 1, end");
        code("def f x = (let y = x in y) + x;", 0, 6, "get 0, call 0, set 1, get 1, get 0, add, const 1, sub, end");
        // The hidden local of the case is 1, for its token is ahead of the names.
        code("def f p = case p of (x, y) -> y end;", 0, 6,
            "get 0, set 1, get 1, load 12, call 0, set 2, get 1, call 1, get 2, end");
        code("def f p = let y = 1 in case p of (x, z) -> (z, y) end;", 0, 6,
            "const 3, set 1, get 0, set 2, get 2, load 12, call 0, set 3, get 2, call 1, get 3, get 1, call 3, end");
    }

    private static void cells() {
        // Wrappers: f 0, g has none.
        code("def f a b c = a; def g = f;", 0, 7,
            "const 2, call 4, set 0, get 0, const 1, store 8, get 0, const 7, store 12, get 0, end");
        code("def k = 1; def f a b c = a; def g x = f x x;", 0, 8,
            "const 4, call 4, set 1, get 1, const 1, store 8, get 1, const 3, store 12,"
            + "get 1, get 0, call 0, store 16, get 1, get 0, store 20, get 1, end");
        code("def f a b = a; def g = f (f 1);", 0, 7,
            "const 3, call 4, set 0, get 0, const 1, store 8, get 0, const 3, store 12, get 0,"
            + "const 3, call 4, set 1, get 1, const 1, store 8, get 1, const 3, store 12, get 1, const 3, store 16,"
            + "get 1, store 16, get 0, end");
        // Wrappers of three parameters and of one.
        code("def f a b c = a; def g x = x;", 0, 8,
            "get 0, load 16, call 0, get 0, load 20, call 0, get 0, call 1, get 1, call 6, end");
        code("def f a b c = a; def g x = x;", 0, 9, "get 0, call 1, get 1, call 7, end");
    }

    private static void funs() {
        String text = "def f a b = (fun x -> (b, a), fun y -> fun z -> (y, a));";
        code(text, 0, 6, "const 4, call 4, set 2, get 2, const 3, store 8, get 2, const 3, store 12,"
            + "get 2, get 0, call 0, store 16, get 2, get 1, store 20, get 2,"
            + "const 3, call 4, set 3, get 3, const 5, store 8, get 3, const 3, store 12,"
            + "get 3, get 0, store 16, get 3, call 3, end");
        code(text, 0, 7, "get 2, call 1, get 1, get 0, call 3, end");
        code(text, 0, 8, "const 4, call 4, set 2, get 2, const 7, store 8, get 2, const 3, store 12,"
            + "get 2, get 0, store 16, get 2, get 1, store 20, get 2, end");
        code(text, 0, 9, "get 2, call 1, get 1, get 0, call 3, end");
        code("def f = fun a b -> a;", 0, 6,
            "const 2, call 4, set 0, get 0, const 1, store 8, get 0, const 5, store 12, get 0, end");
        Wasmhall hall = made(text, 0);
        KIT.due("parameters of the fun in the fun", hall.functionAt(0, 9, 1), 3);
        KIT.due("locals of f", hall.functionAt(0, 6, 2), 2);
    }

    private static void branches() {
        code("def f c = if c < 1 then 2 else 3;", 0, 6,
            "get 0, const 3, lt_s, const 1, shl, const 1, add, const 2, and, if, const 5, else, const 7, end, end");
        code("def f a b c = if c then a else b;", 0, 6,
            "get 2, const 2, and, if, get 1, call 1, get 0, else, get 0, call 1, get 1, end, end");
        code("def f a c = (if c then a else 1, a);", 0, 6,
            "get 1, const 2, and, if, get 0, call 0, else, const 3, end, get 0, call 3, end");
        code("def f a b = if a < b then [a, a] else [b];", 0, 6,
            "get 0, call 0, get 1, call 0, lt_s, const 1, shl, const 1, add, const 2, and, if, get 1, call 1,"
            + "get 0, call 0, get 0, const 2, call 2, call 2, else, get 0, call 1, get 1, const 2, call 2, end, end");
        // A name that the other branch binds is none of it.
        code("def f c = if c then 1 else let c = 2 in c;", 0, 6,
            "get 0, const 2, and, if, const 3, else, const 5, set 1, get 1, end, end");
        code("def f a l = case l of [] -> a | h : t -> h end;", 0, 6,
            "get 1, tee 2, const 2, eq, if, get 0, else, get 0, call 1, get 2, load 8, call 0, set 3,"
            + "get 2, call 1, get 3, end, end");
        code("def f a l = case l of [] -> [] | h : t -> a : t end;", 0, 6,
            "get 1, tee 2, const 2, eq, if, get 0, call 1, const 2, else, get 2, load 12, call 0, set 3,"
            + "get 2, call 1, get 0, get 3, call 2, end, end");
        code("def f l = case l of [] -> 0 | h : t -> 1 end;", 0, 6,
            "get 0, tee 1, const 2, eq, if, const 1, else, get 1, call 1, const 3, end, end");
        code("def f l = case l of [] -> l | h : t -> l end;", 0, 6,
            "get 0, call 0, tee 1, const 2, eq, if, get 0, else, get 1, call 1, get 0, end, end");
    }

    private static void uses() {
        code("def g a b = a; def f x = g x 1;", 0, 7, "get 0, const 3, call 6, end");
        code("def g a = fun b -> a; def f x = g x 1;", 0, 6, "const 3, call 4, set 1, get 1, const 3, store 8,"
            + "get 1, const 3, store 12, get 1, get 0, store 16, get 1, end");
        code("def k = 1; def f = k + k;", 0, 7, "call 6, call 6, add, const 1, sub, end");
        code("def k = fun x -> x; def f = k 1 ;", 0, 8, "call 6, const 3, call 5, end");
        code("def g a = fun b -> a; def f x = g x x;", 0, 8, "get 0, call 0, call 6, get 0, call 5, end");
        code("def f g x = g x 1;", 0, 6, "get 0, get 1, call 5, const 3, call 5, end");
        code("def f g x = (g) (g x);", 0, 6, "get 0, call 0, get 0, get 1, call 5, call 5, end");
        code("def g a b = a; def f x = (g x) 1;", 0, 7,
            "const 3, call 4, set 1, get 1, const 1, store 8, get 1, const 3, store 12, get 1, get 0, store 16, get 1,"
            + "const 3, call 5, end");
        code("def g a b = a; def f x = (g) x 1;", 0, 7, "get 0, const 3, call 6, end");
        code("def f a b = f b a;", 0, 6, "get 1, get 0, call 6, end");
    }

    private static void folding() {
        code("def f = 1 + 2 * 3 - 4 / 2 % 3;", 1, 6, "const 11, end");
        code("def f = 2 - 5;", 1, 6, "const -5, end");
        code("def f = 536870912 * 2;", 1, 6, "const -2147483647, end");
        code("def f = 1 / 0;", 1, 6, "const 3, const 1, shr_s, const 1, const 1, shr_s, div_s, const 1, shl, const 1,"
            + "add, end");
        code("def f x = x + 1 + 2;", 1, 6, "get 0, const 3, add, const 1, sub, const 5, add, const 1, sub, end");
        code("def f x = 1 + 2 + x;", 1, 6, "const 7, get 0, add, const 1, sub, end");
        code("def f x = x + (1 + 2);", 1, 6, "get 0, const 7, add, const 1, sub, end");
        code("def f = (1 < 2, (2 <= 1, 3 == 3));", 1, 6, "const 3, const 1, const 3, call 3, call 3, end");
        code("def f x y = if 1 < 2 then x else y;", 1, 6, "get 1, call 1, get 0, end");
        code("def f x y = if no then x else y;", 1, 6, "get 0, call 1, get 1, end");
        code("def f x = let y = x in if yes then 1 else y;", 1, 6, "get 0, call 1, const 3, end");
        code("def f = (if yes then 1 else 2) + 3;", 1, 6, "const 9, end");
        code("def g a = a; def h a = a; def f x = (if no then g else h) x;", 1, 8, "get 0, call 7, end");
        code("def f x = [fun y -> if no then x else y];", 1, 6,
            "get 0, call 1, const 2, call 4, set 1, get 1, const 3, store 8, get 1, const 3, store 12, get 1, const 2,"
            + "call 2, end");
        Wasmhall hall = made("def f = if yes then fun a -> a else fun b -> b;", 1);
        KIT.due("the fun that is left out has no functions", hall.moduleAt(0, 2), 4);
        code("def f = 1 + 2;", 0, 6, "const 3, const 5, add, const 1, sub, end");
    }

    private static void loops() {
        code("def f x = f x;", 1, 6, "loop 127, get 0, set 0, br 0, end, end");
        code("def f a b = if a < 1 then b else f (a - 1) a;", 1, 6,
            "loop 127, get 0, call 0, const 3, lt_s, const 1, shl, const 1, add, const 2, and, if,"
            + "get 0, call 1, get 1, else, get 1, call 1, get 0, call 0, const 3, sub, const 1, add, get 0,"
            + "set 1, set 0, br 1, end, end, end");
        code("def f l a = case l of [] -> a | h : t -> let b = h in f t b end;", 1, 6,
            "loop 127, get 0, tee 2, const 2, eq, if, get 1, else, get 1, call 1, get 2, load 8, call 0, set 3,"
            + "get 2, load 12, call 0, set 4, get 2, call 1, get 3, set 5, get 4, get 5, set 1, set 0, br 1,"
            + "end, end, end");
        code("def f x y = f y 1;", 1, 6, "loop 127, get 0, call 1, get 1, const 3, set 1, set 0, br 0, end, end");
        code("def f p = case p of (a, b) -> f (b, a) end;", 1, 6,
            "loop 127, get 0, set 1, get 1, load 8, call 0, set 2, get 1, load 12, call 0, set 3, get 1, call 1,"
            + "get 3, get 2, call 3, set 0, br 0, end, end");
        // No last places of its own body, not as many atoms, or no parameters: no loop.
        code("def f x = 1 + f x;", 1, 6, "const 3, get 0, call 6, add, const 1, sub, end");
        code("def f = f;", 1, 6, "call 6, end");
        code("def f x = fun y -> f x y;", 1, 7, "get 0, call 6, get 1, call 5, end");
        code("def f x = f x;", 0, 6, "get 0, call 6, end");
        code("def f x = f (f x);", 1, 6, "loop 127, get 0, call 6, set 0, br 0, end, end");
        code("def f x = if yes then f x else x;", 1, 6, "loop 127, get 0, set 0, br 0, end, end");
        code("def f c = if c < 1 then 1 else if c < 2 then f c else f 3;", 1, 6,
            "loop 127, get 0, call 0, const 3, lt_s, const 1, shl, const 1, add, const 2, and, if, get 0, call 1,"
            + "const 3, else, get 0, call 0, const 5, lt_s, const 1, shl, const 1, add, const 2, and, if, get 0, set 0,"
            + "br 2, else, get 0, call 1, const 7, set 0, br 2, end, end, end, end");
    }

    private static void questions() {
        Wasmhall hall = made("def f x = [x, 1];", 0);
        KIT.due("get", hall.opAt(0, 6, 0, 0), 32);
        KIT.due("its local", hall.opAt(0, 6, 0, 1), 0);
        KIT.due("const", hall.opAt(0, 6, 2, 0), 65);
        KIT.due("its number", hall.opAt(0, 6, 2, 1), 2);
        KIT.due("end", hall.opAt(0, 6, 5, 0), 11);
        KIT.due("nothing stands with end", hall.opAt(0, 6, 5, 1), Wasmhall.NONE);
        KIT.due("if", hall.opAt(0, 5, 4, 1), 127);
        KIT.due("loop", hall.opAt(0, 5, 29, 1), 64);
        KIT.due("call_indirect", hall.opAt(0, 5, 11, 1), 2);
        KIT.due("store", hall.opAt(0, 5, 28, 1), 8);
        KIT.due("br_if", hall.opAt(0, 5, 48, 0), 13);
        KIT.due("its block", hall.opAt(0, 5, 48, 1), 0);
        KIT.due("loops", hall.countOf(0, 3), 1);
        KIT.due("ends", hall.countOf(0, 11), 5);
        KIT.due("links are calls", hall.countOf(0, 16), 3 + 2 + 2);
        KIT.due("no byte of an instruction", hall.countOf(0, 255), 0);
        KIT.due("pages at least", hall.moduleAt(0, 7), 1);
        KIT.due("pages at most", hall.moduleAt(0, 8), 8);
        KIT.due("made", hall.moduleAt(0, 6), 1);
    }

    private static void wrongCalls() {
        Wasmhall hall = made("def f x = x;", 0);
        KIT.throwing("make(1, 0)", IndexOutOfBoundsException.class, () -> hall.make(1, 0));
        KIT.throwing("make(-1, 2)", IndexOutOfBoundsException.class, () -> hall.make(-1, 2));
        KIT.throwing("make(0, 2)", IllegalArgumentException.class, () -> hall.make(0, 2));
        KIT.throwing("make(0, -1)", IllegalArgumentException.class, () -> hall.make(0, -1));
        for (int i = 1; i < 8; i++) {
            KIT.due("make(0, 1)", hall.make(0, 1), i);
        }
        KIT.throwing("a ninth module", IllegalStateException.class, () -> hall.make(0, 0));
        KIT.throwing("the level comes first", IllegalArgumentException.class, () -> hall.make(0, 2));
        KIT.throwing("moduleAt(8, 0)", IndexOutOfBoundsException.class, () -> hall.moduleAt(8, 0));
        KIT.throwing("moduleAt(-1, 9)", IndexOutOfBoundsException.class, () -> hall.moduleAt(-1, 9));
        KIT.throwing("moduleAt(0, 9)", IllegalArgumentException.class, () -> hall.moduleAt(0, 9));
        KIT.throwing("moduleAt(0, -1)", IllegalArgumentException.class, () -> hall.moduleAt(0, -1));
        KIT.throwing("functionAt(0, 8, 0)", IndexOutOfBoundsException.class, () -> hall.functionAt(0, 8, 0));
        KIT.throwing("functionAt(0, -1, 4)", IndexOutOfBoundsException.class, () -> hall.functionAt(0, -1, 4));
        KIT.throwing("functionAt(0, 7, 4)", IllegalArgumentException.class, () -> hall.functionAt(0, 7, 4));
        KIT.throwing("functionAt(9, 0, 0)", IndexOutOfBoundsException.class, () -> hall.functionAt(9, 0, 0));
        KIT.throwing("opAt of an import", IndexOutOfBoundsException.class, () -> hall.opAt(0, 4, 0, 0));
        KIT.throwing("opAt behind the end", IndexOutOfBoundsException.class, () -> hall.opAt(0, 6, 2, 0));
        KIT.throwing("opAt(0, 6, -1, 0)", IndexOutOfBoundsException.class, () -> hall.opAt(0, 6, -1, 0));
        KIT.throwing("opAt of no function", IndexOutOfBoundsException.class, () -> hall.opAt(0, 8, 0, 2));
        KIT.throwing("opAt(0, MIN, 0, 0)", IndexOutOfBoundsException.class,
            () -> hall.opAt(0, Integer.MIN_VALUE, 0, 0));
        KIT.throwing("opAt(0, 6, 0, 2)", IllegalArgumentException.class, () -> hall.opAt(0, 6, 0, 2));
        KIT.throwing("opAt(0, 6, 0, -1)", IllegalArgumentException.class, () -> hall.opAt(0, 6, 0, -1));
        KIT.throwing("countOf(8, 0)", IndexOutOfBoundsException.class, () -> hall.countOf(8, 256));
        KIT.throwing("countOf(0, 256)", IllegalArgumentException.class, () -> hall.countOf(0, 256));
        KIT.throwing("countOf(0, -1)", IllegalArgumentException.class, () -> hall.countOf(0, -1));
    }
}
