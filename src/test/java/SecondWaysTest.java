/** Promises 38 to 42: the meaning against the module, the theorem, and sums and means. */
public final class SecondWaysTest {
    private static final Kit KIT = new Kit();

    public static void main(String[] args) {
        agreeing();
        stopped();
        wrongCalls();
        questionsAlone();
        theorem();
        sums();
        means();
        shares();
        constants();
        KIT.end();
    }

    private static void agreeing() {
        Wasmhall hall = new Wasmhall();
        for (int i = 0; i < 8; i++) {
            hall.piece(i);
        }
        hall.load();
        int[] asked = {3, 6, 7, 8, 9, 10};
        for (int definition : asked) {
            for (int level = 0; level < 2; level++) {
                for (int n = -3; n < 12; n += 2) {
                    KIT.due("agree(0, " + definition + ", " + level + ", " + n + ", 2, 3)",
                        hall.agree(0, definition, level, n, 2, 3), 1);
                }
            }
        }
        Kit.loaded(hall, "def f a b = (a / b, (a % b, (a * b, (a - b, a + b))));");
        int[] numbers = {0, 1, -1, 7, -7, 1073741823, -1073741824, 46341};
        for (int a : numbers) {
            for (int b : numbers) {
                KIT.due("agree(1, 0, 0, " + a + ", " + b + ", 0)", hall.agree(1, 0, 0, a, b, 0), 1);
            }
        }
    }

    private static void stopped() {
        Wasmhall hall = new Wasmhall();
        Kit.loaded(hall, "def f n = if n < 1 then 0 else f (n - 1); def g n = if n < 1 then [] else n : g (n - 1);"
            + " def a n = let l = g 40 in n; def h n = if n < 1 then 1 / 0 else a (h (n - 1)); def k = 1 / 0;"
            + " def d n = let y = k in d n;");
        KIT.due("49 calls", hall.agree(0, 0, 0, 49, 0, 0), 1);
        KIT.due("BOUND", hall.agree(0, 0, 0, 50, 0, 0), 2);
        KIT.due("BOUND, though the module ends", hall.agree(0, 0, 1, 50, 0, 0), 2);
        KIT.due("both DIVISION", hall.agree(0, 4, 0, 0, 0, 0), 1);
        KIT.due("both DIVISION at level 1", hall.agree(0, 5, 1, 0, 0, 0), 1);
        KIT.due("DIVISION at the end", hall.agree(0, 3, 0, 20, 0, 0), 1);
        // More cells than there is room for, in few functions: 14 lists of 40 numbers each have 560 links.
        Kit.loaded(hall, "def a l = 1 : 1 : 1 : 1 : 1 : 1 : 1 : 1 : 1 : 1 : l; def b l = a (a (a (a (a l))));"
            + " def c l = b (b (b l)); def f = c (c (c (c []))); def g = c (c (c []));");
        KIT.due("MEMORY", hall.agree(1, 3, 0, 0, 0, 0), 2);
        KIT.due("room enough", hall.agree(1, 4, 0, 0, 0, 0), 1);
        // Each of 30 functions begun and not ended has a frame of a fun beside it: more than 80 frames.
        Kit.loaded(hall, "def t f = f 0; def w n = if n < 1 then 0 else (fun x -> w (n - 1)) 0; def s n = w n;");
        KIT.due("frames of APPLY and wrappers", hall.agree(2, 1, 0, 24, 0, 0), 2);
        KIT.due("fewer of them", hall.agree(2, 1, 0, 15, 0, 0), 1);
        // 46 functions, of which each does more than 500 steps.
        StringBuilder sum = new StringBuilder("def s n = 0");
        for (int i = 0; i < 100; i++) {
            sum.append("+n*n");
        }
        Kit.loaded(hall, sum + "; def f n = if n < 1 then 0 else s n + f (n - 1);");
        KIT.due("the steps", hall.agree(3, 1, 0, 40, 0, 0), 2);
        KIT.due("fewer steps", hall.agree(3, 1, 0, 10, 0, 0), 1);
    }

    private static void wrongCalls() {
        Wasmhall hall = new Wasmhall();
        Kit.loaded(hall, "def f x = x; def g l = case l of [] -> 1 | h : t -> 2 end;");
        KIT.throwing("no program", IndexOutOfBoundsException.class, () -> hall.agree(1, 0, 0, 0, 0, 0));
        KIT.throwing("no definition", IndexOutOfBoundsException.class, () -> hall.agree(0, 2, 2, 0, 0, 0));
        KIT.throwing("not ASKED", IllegalStateException.class, () -> hall.agree(0, 1, 2, 0, 0, 0));
        KIT.throwing("level 2", IllegalArgumentException.class, () -> hall.agree(0, 0, 2, 0, 0, 0));
        KIT.throwing("level -1", IllegalArgumentException.class, () -> hall.agree(0, 0, -1, 0, 0, 0));
        KIT.throwing("a beyond", IllegalArgumentException.class, () -> hall.agree(0, 0, 0, 1073741824, 0, 0));
        KIT.due("b does not matter", hall.agree(0, 0, 0, 1, 1073741824, 0), 1);
    }

    private static void questionsAlone() {
        Wasmhall hall = new Wasmhall();
        Kit.loaded(hall, "def f n = if n < 1 then [] else n : f (n - 1);");
        hall.mean(0, 0, 3, 0, 0);
        for (int i = 0; i < 8; i++) {
            hall.make(0, i % 2);
        }
        for (int i = 0; i < 6; i++) {
            hall.begin(i, 0, i, 0, 0);
        }
        hall.bytes(7, 1);
        String before = all(hall);
        KIT.due("agree()", hall.agree(0, 0, 1, 9, 0, 0), 1);
        KIT.due("errors()", hall.errors(), 0);
        KIT.due("checksum()", hall.checksum() != 17, true);
        KIT.due("they are questions", all(hall), before);
    }

    private static String all(Wasmhall hall) {
        StringBuilder text = new StringBuilder(Kit.output(hall));
        text.append(' ').append(hall.meant(0)).append(' ').append(hall.meant(1)).append(' ').append(Kit.bytes(hall));
        text.append(' ').append(hall.fault(true)).append(' ').append(hall.fault(false));
        for (int i = 0; i < 8; i++) {
            text.append(' ').append(hall.moduleAt(i, 5)).append(' ').append(Kit.code(hall, i, 6));
        }
        for (int i = 0; i < 6; i++) {
            for (int what = 0; what < 12; what++) {
                text.append(' ').append(hall.runAt(i, what));
            }
        }
        return text.toString();
    }

    private static void theorem() {
        Wasmhall hall = new Wasmhall();
        KIT.due("errors() of a new hall", hall.errors(), 0);
        Kit.loaded(hall, "def f n = if n < 1 then [] else n : f (n - 1); def g n = fun x -> f n; def h n = 1 / n;");
        hall.make(0, 0);
        hall.make(0, 1);
        hall.write(0);
        hall.read();
        KIT.due("errors() of modules", hall.errors(), 0);
        hall.begin(0, 0, 5, 0, 0);
        hall.begin(1, 1, 5, 0, 0);
        hall.begin(1, 2, 0, 0, 0);
        hall.begin(2, 0, 3, 0, 0);
        for (int i = 0; i < 4; i++) {
            hall.step(i, 7);
        }
        KIT.due("errors() of runs that go", hall.errors(), 0);
        for (int i = 0; i < 4; i++) {
            if (hall.runAt(i, 0) == 0) {
                hall.step(i, 20000);
            }
        }
        KIT.due("errors() of runs that have ended", hall.errors(), 0);
        hall.giveBack(0);
        KIT.due("errors() behind giveBack()", hall.errors(), 0);
        KIT.due("the BYTES stay", hall.cutBytes(0), hall.moduleAt(0, 5));
        // A run of a read module may do what it likes.
        Wasmhall wild = new Wasmhall();
        Kit.putBytes(wild, Bytes.module(Bytes.section(1, Bytes.row(Bytes.type(0, 0))), Bytes.section(3, Bytes.of(1, 0)),
            Bytes.section(7, Bytes.row(Bytes.exported("a", 0))), Bytes.section(10, Bytes.row(Bytes.code(0,
            Bytes.of(0))))));
        wild.read();
        wild.begin(0, 0, 0, 0, 0);
        wild.step(0, 5);
        KIT.due("UNREACHABLE of a read one", wild.errors(), 0);
    }

    private static void sums() {
        Wasmhall hall = new Wasmhall();
        KIT.due("checksum() of no output", hall.checksum(), 17);
        Kit.loaded(hall, "def f = [yes, no]; def g = 12;");
        hall.mean(0, 0, 0, 0, 0);
        int due = 17;
        for (char sign : "[yes, no]".toCharArray()) {
            due = 31 * due + sign;
        }
        KIT.due("checksum()", hall.checksum(), due);
        hall.typeOf(0, 1);
        KIT.due("checksum() of num", hall.checksum(), ((17 * 31 + 'n') * 31 + 'u') * 31 + 'm');
    }

    private static void means() {
        Wasmhall hall = new Wasmhall();
        KIT.due("meanSteps() without runs", hall.meanSteps() == 0.0, true);
        Kit.loaded(hall, "def f x = x; def g x = 1 + x;");
        hall.make(0, 0);
        hall.begin(0, 0, 1, 0, 0);
        KIT.due("meanSteps() of none done", hall.meanSteps() == 0.0, true);
        hall.step(0, 9);
        KIT.due("meanSteps() of two steps", hall.meanSteps() == 2.0, true);
        hall.begin(0, 1, 1, 0, 0);
        hall.step(1, 9);
        hall.begin(0, 1, 1, 0, 0);
        hall.step(2, 4);
        KIT.due("meanSteps() of 2, 6 and 4", hall.meanSteps() == 4.0, true);
        hall.dropRun(0);
        hall.dropRun(0);
        hall.begin(0, 0, 1, 0, 0);
        hall.step(1, 1);
        KIT.due("meanSteps() of 4 and 1", hall.meanSteps() == 2.5, true);
        hall.begin(0, 0, 1, 0, 0);
        KIT.due("meanSteps() of 4, 1 and 0", hall.meanSteps() == 5.0 / 3.0, true);
    }

    private static void shares() {
        Wasmhall hall = new Wasmhall();
        Kit.putBytes(hall, Bytes.head());
        hall.read();
        KIT.due("countedShare() of none", hall.countedShare(0) == 0.0f, true);
        hall.clearText();
        Kit.loaded(hall, "def f x y = (x, x);");
        hall.make(0, 0);
        // APPLY has two of 61, f a drop and a dup of 7, its wrapper a dup and a drop of 8.
        KIT.due("countedShare()", hall.countedShare(1) == 6.0f / 76.0f, true);
        KIT.throwing("countedShare(2)", IndexOutOfBoundsException.class, () -> hall.countedShare(2));
        // In a read module drop may stand at another place.
        hall.cutBytes(0);
        Kit.putBytes(hall, Bytes.module(Bytes.section(1, Bytes.row(Bytes.type(1, 0), Bytes.type(1, 1), Bytes.type(0, 0))),
            Bytes.section(2, Bytes.row(Bytes.imported("room", 1), Bytes.imported("drop", 0))),
            Bytes.section(3, Bytes.of(1, 2)), Bytes.section(10, Bytes.row(Bytes.code(0, Bytes.of(65, 1, 16, 0, 16, 1, 65,
                1, 26))))));
        KIT.due("read()", hall.read(), 2);
        KIT.due("countedShare() of a read one", hall.countedShare(2) == 1.0f / 6.0f, true);
    }

    private static void constants() {
        KIT.due("NONE", Wasmhall.NONE, -1);
    }
}
