/** Promises 12 and 13: what definitions mean, and what is counted by the way. */
public final class MeaningTest {
    private static final Kit KIT = new Kit();

    public static void main(String[] args) {
        values();
        numbers();
        order();
        bounds();
        longValues();
        asked();
        KIT.end();
    }

    /** The last definition of a text with these numbers has a value, written so. */
    private static void value(String text, String due, int... numbers) {
        Wasmhall hall = new Wasmhall();
        Kit.loaded(hall, text);
        KIT.due("mean of " + text, meanLast(hall, numbers), 0);
        KIT.due("the value of " + text, Kit.output(hall), due);
    }

    private static int meanLast(Wasmhall hall, int... numbers) {
        int a = numbers.length > 0 ? numbers[0] : Integer.MAX_VALUE;
        int b = numbers.length > 1 ? numbers[1] : Integer.MAX_VALUE;
        int c = numbers.length > 2 ? numbers[2] : Integer.MAX_VALUE;
        return hall.mean(0, hall.definitions(0) - 1, a, b, c);
    }

    private static void counts(String text, int how, int begun, int most, int... numbers) {
        Wasmhall hall = new Wasmhall();
        Kit.loaded(hall, text);
        KIT.due("mean of " + text, meanLast(hall, numbers), how);
        KIT.due("meant(0) of " + text, hall.meant(0), begun);
        KIT.due("meant(1) of " + text, hall.meant(1), most);
    }

    private static void values() {
        value("def f = 12;", "12");
        value("def f = 0;", "0");
        value("def f = 0 - 7;", "-7");
        value("def f = (yes, no);", "(yes, no)");
        value("def f = [];", "[]");
        value("def f = [1, 2, 3];", "[1, 2, 3]");
        value("def f = 1 : 2 : [3];", "[1, 2, 3]");
        value("def f = [(1, yes), (2, no)];", "[(1, yes), (2, no)]");
        value("def f = [[], [[]], [[], []]];", "[[], [[]], [[], []]]");
        value("def f = fun x -> x;", "fun");
        value("def g a b = a; def f = [g 1, g 2, fun x -> x];", "[fun, fun, fun]");
        value("def f x = x;", "5", 5);
        value("def f x y z = [x, y, z];", "[1, 2, 3]", 1, 2, 3);
        value("def f x = let y = x + 1 in let x = y * y in (x, y);", "(9, 3)", 2);
        value("def f l = case l of [] -> 0 | h : t -> h + f t end; def g n = f [n, 2, 3];", "9", 4);
        value("def f p = case p of (x, y) -> (y, x) end; def g n = f (n, no);", "(no, 1)", 1);
        value("def f n = (fun a b -> a - b) n 3;", "7", 10);
        value("def g a = fun b -> a - b; def f n = g n 3;", "7", 10);
        value("def g a b c d = [a, b, c, d]; def f n = let h = g 1 2 in [h 3 n, h n 4];",
            "[[1, 2, 3, 9], [1, 2, 9, 4]]", 9);
        value("def k = 3; def f x = k * k + x;", "10", 1);
        value("def f x = (fun x -> x * 2) (x + 1);", "12", 5);
        value("def f x = let g = fun y -> x in let x = 7 in (g 0, x);", "(5, 7)", 5);
        value("def f n = if n <= 0 then [] else n : f (n - 1);", "[3, 2, 1]", 3);
    }

    private static void numbers() {
        value("def f = 536870912 + 536870912;", "-1073741824");
        value("def f a b = a + b;", "-1073741824", 1073741823, 1);
        value("def f a b = a - b;", "1073741823", -1073741824, 1);
        value("def f a b = a * b;", "1", 1073741823, 1073741823);
        value("def f a b = a * b;", "-1073741824", 536870912, 2);
        value("def f a b = a * b;", "0", 536870912, 4);
        value("def f a b = a * b;", "808348673", 999999999, 999999999);
        value("def f a b = a / b;", "-3", -7, 2);
        value("def f a b = a / b;", "-3", 7, -2);
        value("def f a b = a / b;", "-1073741824", -1073741824, -1);
        value("def f a b = a % b;", "-1", -7, 2);
        value("def f a b = a % b;", "1", 7, -2);
        value("def f a b = a % b;", "0", -1073741824, -1);
        value("def f a b = (a < b, (a <= b, a == b));", "(yes, (yes, no))", -1, 1);
        value("def f a b = (a < b, (a <= b, a == b));", "(no, (yes, yes))", 3, 3);
        value("def f a b = (a < b, (a <= b, a == b));", "(no, (no, no))", 4, 3);
        value("def f = 100 - 10 - 1;", "89");
        value("def f = 100 / 10 / 3 * 2 % 4;", "2");
        value("def f = 1 + 2 * 3 - 4;", "3");
    }

    private static void order() {
        counts("def f = 1 / 0;", 1, 1, 1);
        counts("def f = 1 % 0;", 1, 1, 1);
        counts("def g x = x; def f = [1 / 0, g 1];", 1, 1, 1);
        counts("def g x = x; def f = [g 1, 1 / 0, g 2];", 1, 2, 2);
        counts("def g x = x; def h x y = y; def f = h (g 1) (1 / 0);", 1, 2, 2);
        counts("def g x = fun y -> y; def f = g 1 (1 / 0);", 1, 2, 2);
        counts("def g x y = y; def f = g 1 (1 / 0);", 1, 1, 1);
        counts("def k = 1; def f = k + k + k;", 0, 4, 2);
        counts("def k = fun x -> x; def f = k (k 1);", 0, 5, 2);
        counts("def g x y = x; def f = [g 1, g 2];", 0, 1, 1);
        counts("def g a b = a; def f n = let h = g n in h 1 + h 2;", 0, 3, 2, 7);
        counts("def f n = if n < 1 then 0 else 1 + f (n - 1);", 0, 11, 11, 10);
        counts("def f n = if n < 1 then 0 else f (n - 1);", 0, 11, 11, 10);
    }

    private static void bounds() {
        String deep = "def f n = if n < 1 then 0 else f (n - 1);";
        counts(deep, 0, 50, 50, 49);
        counts(deep, 2, 50, 50, 50);
        String many = "def g n = if n < 1 then 0 else g (n - 1); def f n = [g 48, g 48, g 48, g 48, g 48, g 48, g 48, "
            + "g 48, g 48, g 48, g 48, g 48, g 48, g 48, g 48, g 48, g 48, g 48, g 48, g 48, g n];";
        counts(many, 0, 1000, 50, 18);
        counts(many, 2, 1000, 50, 19);
        counts("def f = f;", 2, 50, 50);
        Wasmhall hall = new Wasmhall();
        Kit.loaded(hall, "def f n = 10 / n; def g = g;");
        KIT.due("meant(0) ahead of any", hall.meant(0), 0);
        KIT.due("meant(1) ahead of any", hall.meant(1), 0);
        hall.mean(0, 0, 5, 0, 0);
        KIT.due("mean() with DIVISION", hall.mean(0, 0, 0, 0, 0), 1);
        KIT.due("the output stays", Kit.output(hall), "2");
        KIT.due("mean() with BOUND", hall.mean(0, 1, 0, 0, 0), 2);
        KIT.due("the output stays there, too", Kit.output(hall), "2");
        KIT.throwing("meant(-1)", IllegalArgumentException.class, () -> hall.meant(-1));
        KIT.throwing("meant(2)", IllegalArgumentException.class, () -> hall.meant(2));
    }

    private static void longValues() {
        Wasmhall hall = new Wasmhall();
        Kit.loaded(hall, "def a l = 123456789 : 123456789 : 123456789 : 123456789 : 123456789 : l; "
            + "def b l = a (a (a (a (a l)))); def f = b (b (b (b (b (b (b (b [])))))));");
        KIT.due("mean of a long list", hall.mean(0, 2, 0, 0, 0), 0);
        StringBuilder due = new StringBuilder("[123456789");
        for (int i = 1; i < 200; i++) {
            due.append(", 123456789");
        }
        KIT.due("the first 2000 signs", Kit.output(hall), due.append("]").substring(0, 2000));
        KIT.due("output(1999)", hall.output(1999), due.charAt(1999));
        KIT.due("output(2000)", hall.output(2000), Wasmhall.NONE);
    }

    private static void asked() {
        Wasmhall hall = new Wasmhall();
        Kit.loaded(hall, "def f a b c d = a; def g l = case l of [] -> 1 | h : t -> 2 end; def h x b = if b then x else x;"
            + "def i x y = [x, y]; def j a b c = a; def k x = fun y -> y; def m x = f x;");
        KIT.throwing("mean() of four parameters", IllegalStateException.class, () -> hall.mean(0, 0, 0, 0, 0));
        KIT.throwing("mean() of a list", IllegalStateException.class, () -> hall.mean(0, 1, 0, 0, 0));
        KIT.throwing("mean() of a truth", IllegalStateException.class, () -> hall.mean(0, 2, 0, 0, 0));
        KIT.throwing("not ASKED comes ahead of the numbers", IllegalStateException.class,
            () -> hall.mean(0, 1, Integer.MAX_VALUE, 0, 0));
        KIT.throwing("no definition", IndexOutOfBoundsException.class, () -> hall.mean(0, 7, 0, 0, 0));
        KIT.throwing("definition -1", IndexOutOfBoundsException.class, () -> hall.mean(0, -1, 0, 0, 0));
        KIT.throwing("no program", IndexOutOfBoundsException.class, () -> hall.mean(1, 0, 0, 0, 0));
        KIT.due("variables are asked as numbers", hall.mean(0, 3, 4, 5, Integer.MAX_VALUE), 0);
        KIT.due("the value of i", Kit.output(hall), "[4, 5]");
        KIT.throwing("a beyond", IllegalArgumentException.class, () -> hall.mean(0, 3, 1073741824, 0, 0));
        KIT.throwing("b beyond", IllegalArgumentException.class, () -> hall.mean(0, 3, 0, -1073741825, 0));
        KIT.throwing("c beyond", IllegalArgumentException.class, () -> hall.mean(0, 4, 0, 0, Integer.MIN_VALUE));
        KIT.due("nothing changed", Kit.output(hall), "[4, 5]");
        KIT.due("meant(0) stays", hall.meant(0), 1);
        KIT.due("bounds of numbers", hall.mean(0, 3, 1073741823, -1073741824, 0), 0);
        KIT.due("their value", Kit.output(hall), "[1073741823, -1073741824]");
        KIT.due("a function as value", hall.mean(0, 5, 1, 0, 0), 0);
        KIT.due("is written", Kit.output(hall), "fun");
        KIT.due("one that lacks three", hall.mean(0, 6, 1, 0, 0), 0);
        KIT.due("is written, too", Kit.output(hall), "fun");
    }
}
