/** Promises 1 to 11: the text, its faults, programs and their types. */
public final class TextTest {
    private static final Kit KIT = new Kit();

    public static void main(String[] args) {
        newObject();
        texts();
        pieces();
        faultsOfGrammar();
        faultsOfNames();
        faultsOfTypes();
        partsOfTypes();
        programs();
        types();
        KIT.end();
    }

    private static void newObject() {
        Wasmhall hall = new Wasmhall();
        KIT.due("clearText() of a new hall", hall.clearText(), 0);
        KIT.due("faultKind() of a new hall", hall.faultKind(), 0);
        KIT.due("faultPlace() of a new hall", hall.faultPlace(), Wasmhall.NONE);
        KIT.due("output(0) of a new hall", hall.output(0), Wasmhall.NONE);
        KIT.due("byteAt(0) of a new hall", hall.byteAt(0), Wasmhall.NONE);
        KIT.due("checksum() of a new hall", hall.checksum(), 17);
        KIT.due("cutBytes(0) of a new hall", hall.cutBytes(0), 0);
        KIT.due("clearModules() of a new hall", hall.clearModules(), 0);
        KIT.throwing("definitions(0) of a new hall", IndexOutOfBoundsException.class, () -> hall.definitions(0));
        KIT.throwing("moduleAt(0, 0) of a new hall", IndexOutOfBoundsException.class, () -> hall.moduleAt(0, 0));
        KIT.throwing("runAt(0, 0) of a new hall", IndexOutOfBoundsException.class, () -> hall.runAt(0, 0));
    }

    private static void texts() {
        Wasmhall hall = new Wasmhall();
        KIT.due("type of zeros", hall.type(0, 0, 0, 0), 0);
        KIT.due("type leaves zeros out", hall.type(0x6400650000000066L, 0, 0x20L, 0x66000000000000L), 5);
        KIT.due("type goes on", hall.type(0x3d, 0x31, 0x3b, 0), 8);
        KIT.due("the text is def f=1;", hall.faultKind(), 0);
        KIT.due("load()", hall.load(), 0);
        for (int i = 0; i < 100; i++) {
            hall.type(0x2020202020202020L, 0, 0, 0);
        }
        KIT.due("800 bytes stand", hall.faultKind(), 0);
        KIT.throwing("an 801st byte", IllegalStateException.class, () -> hall.type(0, 0, 0, 0x3b));
        KIT.due("zeros are no bytes", hall.type(0, 0, 0, 0), 800);
        KIT.throwing("a piece too much", IllegalStateException.class, () -> hall.piece(3));
        KIT.throwing("no piece, though the text is full", IllegalArgumentException.class, () -> hall.piece(8));
        KIT.due("clearText()", hall.clearText(), 800);
        KIT.due("clearText() again", hall.clearText(), 0);
        Kit.put(hall, "def f = ");
        KIT.due("ends too early", hall.faultPlace(), 8);
        hall.type(0x80, 0xff, 0, 0);
        KIT.due("bytes from 128 on stand in the text", hall.clearText(), 10);
    }

    private static void pieces() {
        int[] lengths = {55, 62, 61, 52, 69, 55, 59, 71};
        int[] counts = {1, 1, 1, 1, 2, 1, 2, 2};
        Wasmhall hall = new Wasmhall();
        int sum = 0;
        int definitions = 0;
        for (int i = 0; i < 8; i++) {
            sum += lengths[i];
            definitions += counts[i];
            KIT.due("piece(" + i + ")", hall.piece(i), sum);
        }
        KIT.throwing("piece(-1)", IllegalArgumentException.class, () -> hall.piece(-1));
        KIT.throwing("piece(8)", IllegalArgumentException.class, () -> hall.piece(8));
        hall.load();
        KIT.due("definitions of all pieces", hall.definitions(0), definitions);
        String[] due = {"[a] -> num", "(a -> b) -> [a] -> [b]", "[num] -> num -> num", "num -> [num]",
            "(a, b) -> (b, a)", "(a -> a) -> a -> a", "num -> num", "num -> num -> num", "[num -> num]",
            "num -> (num, num)", "num -> num"};
        for (int d = 0; d < due.length; d++) {
            KIT.due("type of definition " + d + " of the pieces", Kit.typeOf(hall, 0, d), due[d]);
        }
        int[] parameters = {1, 2, 2, 1, 1, 2, 1, 2, 0, 1, 1};
        for (int d = 0; d < parameters.length; d++) {
            KIT.due("parameters(0, " + d + ")", hall.parameters(0, d), parameters[d]);
        }
    }

    private static void fault(String text, int kind, int place) {
        KIT.due("fault of " + text, Kit.fault(text), kind + " " + place);
    }

    private static void good(String text) {
        fault(text, 0, -1);
    }

    private static void faultsOfGrammar() {
        good("");
        good(" \n ");
        good("\n def f=1 ;\n ");
        good("def f=1;def g=2;");
        good("def abc123=123456789;");
        fault("de f = 1;", 1, 0);
        fault("def", 1, 3);
        fault("def 1", 1, 4);
        fault("def if = 1;", 1, 4);
        fault("def f == 1;", 1, 6);
        fault("def f = 1", 1, 9);
        fault("def f = 1 def g = 2;", 1, 10);
        fault("def f = abcdefg;", 1, 8);
        fault("def f = 1234567890;", 1, 8);
        fault("def f = 12ab;", 2, 10);
        fault("def f = A;", 1, 8);
        fault("def f = 1 > 2;", 1, 10);
        fault("def f = 1\t;", 1, 9);
        fault("def f = 1 < 2 < 3;", 1, 14);
        fault("def f = - 1;", 1, 8);
        fault("def f = 1 + if yes then 1 else 2;", 1, 12);
        fault("def f = [1, ];", 1, 12);
        fault("def f = ();", 1, 9);
        fault("def f = (1, 2, 3);", 1, 13);
        fault("def f = fun -> 1;", 1, 12);
        fault("def f = fun a b c d e -> 1;", 1, 20);
        fault("def f a b c d e = 1;", 1, 14);
        fault("def f = case [] of [] -> 1 end;", 1, 27);
        fault("def f = case [] of [x] -> 1 end;", 1, 20);
        fault("def f = case [] of x -> 1 end;", 1, 19);
        fault("def f = case (1, 2) of (x, y, z) -> 1 end;", 1, 28);
        fault("def f = let x = 1;", 1, 17);
        fault("def f = let in = 1 in 2;", 1, 12);
        fault("def f = yes no;", 3, 12);
        StringBuilder twelve = new StringBuilder();
        for (int i = 0; i < 12; i++) {
            twelve.append("def f").append(i).append(" = 1; ");
        }
        good(twelve.toString());
        fault(twelve + "def g = 1;", 1, twelve.length());
        good("def f = ((((((((((1))))))))));");
        fault("def f = (((((((((((1)))))))))));", 1, 18);
        good("def f = [[[[[[[[[[1]]]]]]]]]];");
        fault("def f = [[[[[[[[[[[1]]]]]]]]]]];", 1, 18);
        good("def f l = ((((((((fun x -> case l of [] -> 1 | h : t -> 2 end))))))));");
        fault("def f l = ((((((((fun x -> case [] of [] -> 1 | h : t -> 2 end))))))));", 1, 32);
        fault("def f l = (((((((((fun x -> case l of [] -> 1 | h : t -> 2 end)))))))));", 1, 28);
        fault("def f = (((((((((let x = 1 in if yes then x else x)))))))));", 1, 30);
        good("def f = ((((((((((1)))))))))) + ((((((((((1))))))))));");
        fault("def f = (((((((((if yes then 1 else (1))))))))));", 1, 36);
        good("def f = (((((((((if yes then 1 else 2))))))))) + (1);");
        good("def f = ((((((((case (1, 2) of (x, y) -> [x] end))))))));");
    }

    private static void faultsOfNames() {
        fault("def f x x = 1;", 2, 8);
        fault("def f x y x = 1;", 2, 10);
        fault("def f = fun x x -> 1;", 2, 14);
        fault("def f = case [] of [] -> 1 | h : h -> 2 end;", 2, 33);
        fault("def f = case (1, 2) of (h, h) -> 2 end;", 2, 27);
        fault("def f = 1; def f = 2;", 2, 15);
        fault("def f = g; def g = 1;", 2, 8);
        fault("def f = let x = x in 1;", 2, 16);
        fault("def f = (fun x -> x) x;", 2, 21);
        fault("def f = y; def f = ?;", 1, 19);
        fault("def f = y + yes;", 2, 8);
        fault("def f x x = y;", 2, 8);
        good("def f f = f;");
        good("def f = 1; def g f = f;");
        good("def f x = fun x -> x;");
        good("def f x = let x = x in x;");
        good("def f = f;");
        good("def f a b c d = fun a b c d -> a;");
    }

    private static void faultsOfTypes() {
        fault("def f = 1 + yes;", 3, 12);
        fault("def f = yes + 1;", 3, 8);
        fault("def f = (yes) + 1;", 3, 8);
        fault("def f = 1 + ((yes));", 3, 12);
        fault("def f = if 1 then 2 else 3;", 3, 11);
        fault("def f = if yes then 1 else (2, 3);", 3, 27);
        fault("def f = [1, yes];", 3, 12);
        fault("def f x = x x;", 3, 12);
        fault("def f x = f;", 3, 10);
        fault("def f x = (f);", 3, 10);
        fault("def f = let i = fun x -> x in (i 1, i yes);", 3, 38);
        fault("def f = 1 : 2;", 3, 12);
        fault("def f = 1 : 2 : 3;", 3, 16);
        fault("def f = 1 : yes : [no];", 3, 12);
        fault("def f = case 1 of [] -> 1 | h : t -> 2 end;", 3, 13);
        fault("def f = case [1] of (a, b) -> 2 end;", 3, 13);
        fault("def f = case [] of [] -> 1 | h : t -> yes end;", 3, 38);
        fault("def f = yes == no;", 3, 8);
        fault("def f = 1 2;", 3, 10);
        fault("def f a = a; def g = f 1 2;", 3, 25);
        fault("def f l = case l of [] -> l | h : t -> h end;", 3, 39);
        fault("def f = (fun x -> x x) 1;", 3, 20);
        good("def i x = x; def g = (i 1, i yes);");
        good("def f x = f x;");
        fault("def f x = (f 1, f yes);", 3, 18);
    }

    private static void partsOfTypes() {
        // q: 32 variables and 31 pairs, with its parameter 1 + 1 + 63; r: 2 + 32 + 31 + 1 + 16 + 15.
        good("def p a = (a, a); def q a = p (p (p (p (p a)))); def r a = (q a, p (p (p (p a))));");
        fault("def p a = (a, a); def q a = p (p (p (p (p (p a)))));", 3, 28);
        fault("def p a = (a, a); def q a = (p (p (p (p (p (p a))))));", 3, 28);
        fault("def p a = (a, a); def q a = [p (p (p (p (p (p a)))))];", 3, 29);
        // Ten numbers in nine pairs are 19 parts; d has 99 of them.
        StringBuilder pairs = new StringBuilder("1");
        for (int i = 0; i < 9; i++) {
            pairs.insert(0, "(1, ").append(")");
        }
        String five = "def a = " + pairs + "; def b = (a, a); def c = (b, (a, a)); def d = (c, a); ";
        int place = five.length();
        good(five + "def e = [d];");
        fault(five + "def e = [[d]];", 3, place + 8);
        fault(five + "def e = ([[d]]);", 3, place + 8);
        fault(five + "def e = 1 + [[d]];", 3, place + 12);
        fault(five + "def e x = d;", 3, place + 10);
        fault(five + "def e x = ((d));", 3, place + 10);
        good(five + "def e x = c;");
        fault(five + "def e = let y = d in (y, 1);", 3, place + 21);
    }

    private static void programs() {
        Wasmhall hall = new Wasmhall();
        KIT.due("load() of an empty text", hall.load(), 0);
        KIT.due("definitions of it", hall.definitions(0), 0);
        KIT.due("load()", Kit.loaded(hall, "def f x y = x; def g = 1;"), 1);
        KIT.due("load() empties the text", hall.clearText(), 0);
        KIT.due("definitions(1)", hall.definitions(1), 2);
        KIT.due("parameters(1, 0)", hall.parameters(1, 0), 2);
        KIT.due("parameters(1, 1)", hall.parameters(1, 1), 0);
        KIT.throwing("definitions(2)", IndexOutOfBoundsException.class, () -> hall.definitions(2));
        KIT.throwing("definitions(-1)", IndexOutOfBoundsException.class, () -> hall.definitions(-1));
        KIT.throwing("parameters(1, 2)", IndexOutOfBoundsException.class, () -> hall.parameters(1, 2));
        KIT.throwing("parameters(1, -1)", IndexOutOfBoundsException.class, () -> hall.parameters(1, -1));
        KIT.throwing("parameters(2, 0)", IndexOutOfBoundsException.class, () -> hall.parameters(2, 0));
        KIT.throwing("typeOf(1, 2)", IndexOutOfBoundsException.class, () -> hall.typeOf(1, 2));
        KIT.throwing("typeOf(2, 0)", IndexOutOfBoundsException.class, () -> hall.typeOf(2, 0));
        Kit.put(hall, "def f = 1 + yes;");
        KIT.throwing("load() with a fault", IllegalStateException.class, hall::load);
        KIT.due("the text stays", hall.clearText(), 16);
        for (int i = 2; i < 6; i++) {
            KIT.due("load()", Kit.loaded(hall, "def f" + i + " = 1;"), i);
        }
        Kit.put(hall, "def g = 1;");
        KIT.throwing("load() of a seventh program", IllegalStateException.class, hall::load);
        KIT.due("the text stays there, too", hall.clearText(), 10);
    }

    private static void type(String text, int definition, String due) {
        Wasmhall hall = new Wasmhall();
        Kit.loaded(hall, text);
        KIT.due("typeOf of " + text, hall.typeOf(0, definition), due.length());
        KIT.due("the type of " + text, Kit.output(hall), due);
        KIT.due("output(-1)", hall.output(-1), Wasmhall.NONE);
        KIT.due("output behind the end", hall.output(due.length()), Wasmhall.NONE);
    }

    private static void types() {
        type("def f = 1;", 0, "num");
        type("def f = 1 < 2;", 0, "truth");
        type("def f = [];", 0, "[a]");
        type("def f x y = (y, x);", 0, "a -> b -> (b, a)");
        type("def f g = g (g 1);", 0, "(num -> num) -> num");
        type("def f x = fun y z -> [z, x];", 0, "a -> b -> a -> [a]");
        type("def f g h x = g (h x);", 0, "(a -> b) -> (c -> a) -> c -> b");
        type("def f = [fun x -> [x]];", 0, "[a -> [a]]");
        type("def f x = f x;", 0, "a -> b");
        type("def i x = x; def g = i i;", 1, "a -> a");
        type("def f x = let y = x in case y of (a, b) -> a + b end;", 0, "(num, num) -> num");
        type("def f g p = case p of (a, b) -> g a b end;", 0, "(a -> b -> c) -> (a, b) -> c");
        type("def p a b c d = (a, (b, (c, d))); def q a b c d = (p a, (p a b, (p a b c, d)));", 1,
            "a -> b -> c -> d -> (e -> f -> g -> (a, (e, (f, g))), (h -> i -> (a, (b, (h, i))), "
            + "(j -> (a, (b, (c, j))), d)))");
        type("def a = ([], ([], ([], []))); def q = ((a, a), ((a, a), (a, (a, a))));", 1, lists());
    }

    /** The type of 28 empty lists, four by four in pairs: the letters go on behind z with a1 and b1. */
    private static String lists() {
        String[] four = new String[7];
        for (int i = 0; i < 7; i++) {
            String[] v = new String[4];
            for (int k = 0; k < 4; k++) {
                int letter = 4 * i + k;
                v[k] = "[" + (char) ('a' + letter % 26) + (letter < 26 ? "" : "" + letter / 26) + "]";
            }
            four[i] = "(" + v[0] + ", (" + v[1] + ", (" + v[2] + ", " + v[3] + ")))";
        }
        return "((" + four[0] + ", " + four[1] + "), ((" + four[2] + ", " + four[3] + "), (" + four[4] + ", ("
            + four[5] + ", " + four[6] + "))))";
    }
}
