/** The bounds that section 4 of the document names, and those of promises 11 to 13: on both sides, each on its own. */
public final class MeaningBoundsTest {
    private static final Kit KIT = new Kit();
    private static final int LEAST = -1073741824;
    private static final int GREATEST = 1073741823;

    public static void main(String[] args) {
        sumsGoRound();
        differencesGoRound();
        productsGoRound();
        quotients();
        rests();
        divisionByNothing();
        comparisons();
        carriedOutAtOnce();
        carriedOutAheadOfTheNextAtom();
        withoutParametersAtEachAtom();
        thousandFunctions();
        fiftyBegunAndNotEnded();
        boundOrDivision();
        countsAheadOfAnyAndOfTheLatest();
        howValuesAreWritten();
        variablesAsNumbers();
        twoThousandSigns();
        twoThousandSignsOfARun();
        parametersThatCanBeAsked();
        typesThatCanBeAsked();
        numbersThatMatter();
        theOutputStays();
        KIT.end();
    }

    /** What the last definition gives for three numbers, as far as it has parameters. */
    private static String mean(String text, int a, int b, int c) {
        Wasmhall hall = new Wasmhall();
        Kit.loaded(hall, text);
        int how = hall.mean(0, hall.definitions(0) - 1, a, b, c);
        return how == 0 ? Kit.output(hall) : how == 1 ? "DIVISION" : "BOUND";
    }

    private static void due(String text, String due, int... n) {
        int b = n.length > 1 ? n[1] : Integer.MIN_VALUE;
        int c = n.length > 2 ? n[2] : Integer.MIN_VALUE;
        int a = n.length > 0 ? n[0] : Integer.MIN_VALUE;
        KIT.due(text + " with " + a + ", " + b + ", " + c, mean(text, a, b, c), due);
        bothModules(text, due, a, b, c);
    }

    /** The modules of both levels give the same, where the meaning is not ended by BOUND. */
    private static void bothModules(String text, String due, int a, int b, int c) {
        Wasmhall hall = new Wasmhall();
        Kit.loaded(hall, text);
        int last = hall.definitions(0) - 1;
        for (int level = 0; level < 2 && !due.equals("BOUND"); level++) {
            hall.make(0, level);
            hall.begin(level, last, a, b, c);
            hall.step(level, 20000);
            int state = hall.runAt(level, 0);
            String got = state == 3 ? "DIVISION" : "state " + state;
            if (state == 1) {
                hall.value(level);
                got = Kit.output(hall);
            }
            KIT.due("level " + level + " of " + text, got, due);
        }
    }

    private static void counts(String text, int how, int begun, int most, int... n) {
        Wasmhall hall = new Wasmhall();
        Kit.loaded(hall, text);
        KIT.due("mean of " + text, hall.mean(0, hall.definitions(0) - 1, n.length > 0 ? n[0] : 0, 0, 0), how);
        KIT.due("begun in " + text, hall.meant(0), begun);
        KIT.due("most in " + text, hall.meant(1), most);
    }

    /** "a NUMBER from -1073741824 to 1073741823 (results go round: as the lowest 31 bits tell, with a sign)" */
    private static void sumsGoRound() {
        due("def f a b = a + b;", "1073741823", GREATEST - 1, 1);
        due("def f a b = a + b;", "-1073741824", GREATEST, 1);
        due("def f a b = a + b;", "-2", GREATEST, GREATEST);
        due("def f a b = a + b;", "-1073741824", LEAST + 1, -1);
        due("def f a b = a + b;", "1073741823", LEAST, -1);
        due("def f a b = a + b;", "0", LEAST, LEAST);
        due("def f a b = a + b;", "-1", LEAST, GREATEST);
    }

    private static void differencesGoRound() {
        due("def f a b = a - b;", "-1073741824", LEAST + 1, 1);
        due("def f a b = a - b;", "1073741823", LEAST, 1);
        due("def f a b = a - b;", "-1073741824", GREATEST, -1);
        due("def f a b = a - b;", "-1", GREATEST, LEAST);
        due("def f a b = a - b;", "1", LEAST, GREATEST);
        due("def f a = 0 - a;", "-1073741824", LEAST);
        due("def f a = 0 - a;", "-1073741823", GREATEST);
    }

    private static void productsGoRound() {
        due("def f a b = a * b;", "1073741822", 536870911, 2);
        due("def f a b = a * b;", "-1073741824", 536870912, 2);
        due("def f a b = a * b;", "-1073741824", -536870912, 2);
        due("def f a b = a * b;", "1073741822", -536870913, 2);
        due("def f a b = a * b;", "-1073741824", 32768, 32768);
        due("def f a b = a * b;", "0", 32768, 65536);
        due("def f a b = a * b;", "1", GREATEST, GREATEST);
        due("def f a b = a * b;", "0", LEAST, LEAST);
        due("def f a b = a * b;", "-1073741824", LEAST, GREATEST);
        due("def f a b = a * b;", "-1073741824", LEAST, -1);
        due("def f = 999999999 * 999999999;", "808348673");
    }

    /** "/ is the quotient cut towards 0" */
    private static void quotients() {
        due("def f a b = a / b;", "3", 7, 2);
        due("def f a b = a / b;", "-3", -7, 2);
        due("def f a b = a / b;", "-3", 7, -2);
        due("def f a b = a / b;", "3", -7, -2);
        due("def f a b = a / b;", "0", 1, 2);
        due("def f a b = a / b;", "0", -1, 2);
        due("def f a b = a / b;", "-1073741823", GREATEST, -1);
        due("def f a b = a / b;", "-1073741824", LEAST, -1);
        due("def f a b = a / b;", "-1073741824", LEAST, 1);
        due("def f a b = a / b;", "1", LEAST, LEAST);
        due("def f a b = a / b;", "0", GREATEST, LEAST);
        due("def f a b = a / b;", "-1", LEAST, GREATEST);
    }

    /** "% what is left by it, with the sign of the left side" */
    private static void rests() {
        due("def f a b = a % b;", "1", 7, 2);
        due("def f a b = a % b;", "-1", -7, 2);
        due("def f a b = a % b;", "1", 7, -2);
        due("def f a b = a % b;", "-1", -7, -2);
        due("def f a b = a % b;", "0", -6, 2);
        due("def f a b = a % b;", "0", LEAST, -1);
        due("def f a b = a % b;", "-1", LEAST, GREATEST);
        due("def f a b = a % b;", "1073741823", GREATEST, LEAST);
        due("def f a b = a % b;", "0", 0, 5);
    }

    /** "a division by 0 (by either) ends all with DIVISION" */
    private static void divisionByNothing() {
        for (int a : new int[] {0, 1, -1, LEAST, GREATEST}) {
            due("def f a b = a / b;", "DIVISION", a, 0);
            due("def f a b = a % b;", "DIVISION", a, 0);
        }
        due("def f a b = a / b;", "0", 0, 1);
        due("def f a b = a % b;", "0", 0, -1);
        due("def f = 1 / 0;", "DIVISION");
        due("def f = 1 % 0;", "DIVISION");
        due("def f a = let b = 1 / a in 2;", "DIVISION", 0);
        due("def f a = let b = 1 / a in 2;", "2", 1);
        due("def f a = if a == 0 then 1 else 1 / a;", "1", 0);
        due("def f a = fun b -> 1 / 0;", "fun", 0);
        due("def f a = [1, 2 % a];", "DIVISION", 0);
    }

    /** "< <= == compare numbers" */
    private static void comparisons() {
        String text = "def f a b = (a < b, (a <= b, a == b));";
        due(text, "(yes, (yes, no))", 1, 2);
        due(text, "(no, (yes, yes))", 2, 2);
        due(text, "(no, (no, no))", 3, 2);
        due(text, "(yes, (yes, no))", LEAST, GREATEST);
        due(text, "(no, (no, no))", GREATEST, LEAST);
        due(text, "(yes, (yes, no))", -1, 0);
        due(text, "(no, (yes, yes))", LEAST, LEAST);
    }

    /** "as soon as this has as many as it has parameters (names), it is carried out" */
    private static void carriedOutAtOnce() {
        counts("def g a b = 1 / 0; def f = g 1;", 0, 1, 1);
        counts("def g a b = 1 / 0; def f = g 1 2;", 1, 2, 2);
        counts("def g a = fun b -> 1 / 0; def f = g 1;", 0, 2, 2);
        counts("def g a = fun b -> 1 / 0; def f = g 1 2;", 1, 3, 2);
        counts("def f = (fun a b c -> 1 / 0) 1 2;", 0, 1, 1);
        counts("def f = (fun a b c -> 1 / 0) 1 2 3;", 1, 2, 2);
    }

    /** "ahead of the next atom" */
    private static void carriedOutAheadOfTheNextAtom() {
        counts("def l x = l x; def g a = if 1 / 0 < a then fun b -> b else fun b -> b; def f = g 1 (l 1);", 1, 2, 2);
        counts("def l x = l x; def g a b = 1 / 0; def f = g 1 (1 % 0);", 1, 1, 1);
        counts("def i x = x; def g a = fun b -> 1 / a; def f = g 0 (i 1);", 1, 4, 2);
        counts("def k = 1 / 0; def i x = x; def f = k + i 1;", 1, 2, 2);
    }

    /** "A definition without parameters is carried out at each atom that names it." */
    private static void withoutParametersAtEachAtom() {
        counts("def k = 1; def f = 1;", 0, 1, 1);
        counts("def k = 1; def f = k;", 0, 2, 2);
        counts("def k = 1; def f = [k, k, k];", 0, 4, 2);
        counts("def k = 1; def f = let x = k in [x, x];", 0, 2, 2);
        counts("def k = fun x -> x; def f = k (k k 1);", 0, 7, 2);
    }

    private static String twentyTimes(String call) {
        return "[" + (call + ",").repeat(19) + call + "]";
    }

    /** "A working out may carry out at most 1000 functions ...; the next one ends all with BOUND." */
    private static void thousandFunctions() {
        // g n carries out n + 1, f itself one; k is one at each atom.
        String text = "def g n = if n < 1 then 0 else g (n - 1); def k = 1; def f n = (" + twentyTimes("g 48") + ", g n);";
        counts(text, 0, 1000, 50, 18);
        counts(text, 2, 1000, 50, 19);
        String last = text.replace("g n);", "[g n, k]);");
        counts(last, 0, 1000, 50, 17);
        counts(last, 2, 1000, 50, 18);
        String fun = text.replace("g n);", "[g n, (fun x -> x) 1]);");
        counts(fun, 0, 1000, 50, 17);
        counts(fun, 2, 1000, 50, 18);
    }

    /** "and have at most 50 begun and not ended; the next one ends all with BOUND" */
    private static void fiftyBegunAndNotEnded() {
        String text = "def f n = if n < 1 then 0 else 1 + f (n - 1);";
        counts(text, 0, 50, 50, 49);
        counts(text, 2, 50, 50, 50);
        counts(text, 2, 50, 50, GREATEST);
        // A last place does not end what is begun.
        counts("def f n = if n < 1 then 0 else f (n - 1);", 0, 50, 50, 49);
        counts("def f n = if n < 1 then 0 else f (n - 1);", 2, 50, 50, 50);
        String deep = "def k = 1; def g n = if n < 1 then k else g (n - 1); def f n = g n;";
        counts(deep, 0, 50, 50, 47);
        counts(deep, 2, 50, 50, 48);
        String fun = "def g n = if n < 1 then (fun x -> x) 1 else g (n - 1); def f n = g n;";
        counts(fun, 0, 50, 50, 47);
        counts(fun, 2, 50, 50, 48);
        // A function that only has got some is not begun.
        counts("def h a b = a; def g n = if n < 1 then h 1 else g (n - 1); def f n = g n;", 0, 50, 50, 48);
        counts("def f = f;", 2, 50, 50);
    }

    /** What comes first ends all. */
    private static void boundOrDivision() {
        KIT.due("DIVISION first", mean("def l x = l x; def f n = [1 / n, l 1];", 0, 0, 0), "DIVISION");
        KIT.due("BOUND first", mean("def l x = l x; def f n = [l 1, 1 / n];", 0, 0, 0), "BOUND");
        KIT.due("BOUND", mean("def l x = l x; def f n = [1 / n, l 1];", 1, 0, 0), "BOUND");
    }

    /** "0 ahead of any", "of the latest mean()" */
    private static void countsAheadOfAnyAndOfTheLatest() {
        Wasmhall hall = new Wasmhall();
        Kit.loaded(hall, "def f n = if n < 1 then 10 / n else 1 + f (n - 1); def g l = l + 1; def h = fun x -> x;");
        KIT.due("begun ahead of any", hall.meant(0), 0);
        KIT.due("most ahead of any", hall.meant(1), 0);
        KIT.refused(hall, "meant(-1)", IllegalArgumentException.class, () -> hall.meant(-1));
        KIT.refused(hall, "meant(2)", IllegalArgumentException.class, () -> hall.meant(2));
        hall.agree(0, 1, 0, 1, 0, 0);
        KIT.due("agree() is a question", hall.meant(0), 0);
        hall.mean(0, 0, 3, 0, 0);
        KIT.due("begun up to DIVISION", hall.meant(0), 4);
        KIT.refused(hall, "a refused mean()", IndexOutOfBoundsException.class, () -> hall.mean(0, 3, 0, 0, 0));
        KIT.due("begun stays", hall.meant(0), 4);
        hall.mean(0, 2, 0, 0, 0);
        KIT.due("begun by the latest", hall.meant(0), 1);
        KIT.due("most by the latest", hall.meant(1), 1);
        hall.mean(0, 0, 100, 0, 0);
        KIT.due("begun up to BOUND", hall.meant(0), 50);
        KIT.due("most up to BOUND", hall.meant(1), 50);
    }

    /** "numbers by digits, with - ahead below 0; yes, no; [1, 2] lists, (1, yes) pairs; a function fun" */
    private static void howValuesAreWritten() {
        due("def f a = a;", "0", 0);
        due("def f a = a;", "9", 9);
        due("def f a = a;", "10", 10);
        due("def f a = a;", "-1", -1);
        due("def f a = a;", "-10", -10);
        due("def f a = a;", "1073741823", GREATEST);
        due("def f a = a;", "-1073741824", LEAST);
        due("def f a = a;", "1000000000", 1000000000);
        due("def f a = (yes, no);", "(yes, no)", 0);
        due("def f = [];", "[]");
        due("def f = [[]];", "[[]]");
        due("def f = [1];", "[1]");
        due("def f = [1, 2];", "[1, 2]");
        due("def f = [[1], [], [2, 3]];", "[[1], [], [2, 3]]");
        due("def f = ((1, 2), (3, (4, 5)));", "((1, 2), (3, (4, 5)))");
        due("def f = [(1, fun x -> x)];", "[(1, fun)]");
        due("def g a b = a; def f = [g, g];", "[fun, fun]");
        due("def g a b = a; def f = (g 1, (g, [yes]));", "(fun, (fun, [yes]))");
        due("def f a = [a < 1];", "[no]", 5);
    }

    /** "(Of a variable as its type: as a number.)" */
    private static void variablesAsNumbers() {
        due("def f x = x;", "-3", -3);
        due("def f x y = [(x, y), (x, y)];", "[(4, -5), (4, -5)]", 4, -5);
        due("def i x = x; def f x y z = (i z, [i y, y]);", "(6, [5, 5])", 4, 5, 6);
    }

    /** 180 numbers of nine digits and a and b: with two of eight digits 2000 signs. */
    private static final String LONG = "def t l = 123456789 : 123456789 : 123456789 : 123456789 : 123456789 : 123456789 : 123456789"
        + " : 123456789 : 123456789 : 123456789 : l; def h l = t (t (t (t (t (t l))))); def f a b = a : b : h (h (h []));";

    private static String longDue(int a, int b) {
        String whole = "[" + a + ", " + b + ", 123456789".repeat(180) + "]";
        return whole.substring(0, Math.min(2000, whole.length()));
    }

    /** "Of what would have more than 2000 signs the first 2000 are written." */
    private static void twoThousandSigns() {
        Wasmhall hall = new Wasmhall();
        Kit.loaded(hall, LONG);
        int[][] numbers = {{12345678, 1234567}, {12345678, 12345678}, {12345678, 123456789}, {123456789, 123456789},
            {LEAST, LEAST}};
        int[] lengths = {1999, 2000, 2000, 2000, 2000};
        for (int i = 0; i < lengths.length; i++) {
            KIT.due("mean()", hall.mean(0, 2, numbers[i][0], numbers[i][1], 0), 0);
            String due = longDue(numbers[i][0], numbers[i][1]);
            KIT.due("the length", due.length(), lengths[i]);
            KIT.due("the signs", Kit.output(hall), due);
            KIT.due("output(1998)", hall.output(1998), due.charAt(1998));
            KIT.due("output(1999)", hall.output(1999), lengths[i] == 2000 ? due.charAt(1999) : -1);
            KIT.due("output(2000)", hall.output(2000), -1);
            KIT.due("the last sign", due.charAt(due.length() - 1) == ']', i < 2);
        }
    }

    private static void twoThousandSignsOfARun() {
        Wasmhall hall = Kit.made(LONG, 0);
        int[][] numbers = {{12345678, 1234567}, {12345678, 12345678}, {12345678, 123456789}};
        int[] lengths = {1999, 2000, 2000};
        for (int i = 0; i < lengths.length; i++) {
            hall.begin(0, 2, numbers[i][0], numbers[i][1], 0);
            hall.step(i, 20000);
            KIT.due("value()", hall.value(i), lengths[i]);
            KIT.due("the signs", Kit.output(hall), longDue(numbers[i][0], numbers[i][1]));
            KIT.due("agree()", hall.agree(0, 2, 1, numbers[i][0], numbers[i][1], 0), 1);
        }
    }

    /** "A definition can be ASKED if it has at most 3 parameters" */
    private static void parametersThatCanBeAsked() {
        Wasmhall hall = new Wasmhall();
        Kit.loaded(hall, "def f = 1; def g a = 2; def h a b = 3; def i a b c = 4; def j a b c d = 5; def k a b c = fun d -> 6;");
        for (int d = 0; d < 4; d++) {
            KIT.due("mean() of " + d + " parameters", hall.mean(0, d, 1, 2, 3), 0);
            KIT.due("its value", Kit.output(hall), "" + (d + 1));
            KIT.due("agree()", hall.agree(0, d, 0, 1, 2, 3), 1);
        }
        KIT.refused(hall, "mean() of 4 parameters", IllegalStateException.class, () -> hall.mean(0, 4, 1, 2, 3));
        KIT.refused(hall, "agree() of 4 parameters", IllegalStateException.class, () -> hall.agree(0, 4, 0, 1, 2, 3));
        KIT.due("a function of a function", hall.mean(0, 5, 1, 2, 3), 0);
        hall.make(0, 0);
        for (int d = 0; d < 4; d++) {
            KIT.due("begin() of " + d + " parameters", hall.begin(0, d, 1, 2, 3), d);
        }
        KIT.refused(hall, "begin() of 4 parameters", IllegalStateException.class, () -> hall.begin(0, 4, 1, 2, 3));
    }

    /** "each of which is of the type num or a variable; these are num then" */
    private static void typesThatCanBeAsked() {
        String[] others = {"if x then 1 else 2", "case x of [] -> 1 | h : t -> 2 end", "case x of (a, b) -> 1 end", "x 1",
            "[x, [1]]", "[x, yes]"};
        for (String body : others) {
            for (String parameters : new String[] {"x", "x y", "y x", "y z x"}) {
                Wasmhall hall = new Wasmhall();
                Kit.loaded(hall, "def f " + parameters + " = " + body + ";");
                hall.make(0, 1);
                KIT.refused(hall, "mean() of " + body, IllegalStateException.class, () -> hall.mean(0, 0, 1, 1, 1));
                KIT.refused(hall, "agree() of " + body, IllegalStateException.class, () -> hall.agree(0, 0, 0, 1, 1, 1));
                KIT.refused(hall, "begin() of " + body, IllegalStateException.class, () -> hall.begin(0, 0, 1, 1, 1));
            }
        }
        due("def f x y z = x;", "1", 1, 2, 3);
        due("def f x y z = x + y + z;", "6", 1, 2, 3);
        due("def f x y z = [x, y + z];", "[1, 5]", 1, 2, 3);
    }

    /** "IllegalArgumentException if a number that matters is beyond the NUMBERs" */
    private static void numbersThatMatter() {
        Wasmhall hall = new Wasmhall();
        Kit.loaded(hall, "def f = []; def g a = [a]; def h a b = [a, b]; def i a b c = [a, b, c];");
        hall.make(0, 0);
        for (int d = 0; d < 4; d++) {
            int which = d;
            for (int at = 0; at < 3; at++) {
                for (int n : new int[] {LEAST - 1, GREATEST + 1, Integer.MIN_VALUE, Integer.MAX_VALUE}) {
                    int a = at == 0 ? n : LEAST;
                    int b = at == 1 ? n : GREATEST;
                    int c = at == 2 ? n : LEAST;
                    if (at < d) {
                        KIT.refused(hall, "mean()", IllegalArgumentException.class, () -> hall.mean(0, which, a, b, c));
                        KIT.refused(hall, "begin()", IllegalArgumentException.class, () -> hall.begin(0, which, a, b, c));
                        KIT.refused(hall, "agree()", IllegalArgumentException.class,
                            () -> hall.agree(0, which, 1, a, b, c));
                    } else {
                        KIT.due("mean() with one that does not matter", hall.mean(0, d, a, b, c), 0);
                        KIT.due("its value", Kit.output(hall), new String[] {"[]", "[-1073741824]",
                            "[-1073741824, 1073741823]", "[-1073741824, 1073741823, -1073741824]"}[d]);
                        KIT.due("agree()", hall.agree(0, d, 1, a, b, c), 1);
                        KIT.due("begin()", hall.begin(0, d, a, b, c), 0);
                        hall.dropRun(0);
                    }
                }
            }
        }
        KIT.due("all at their bounds", hall.mean(0, 3, GREATEST, LEAST, GREATEST), 0);
        KIT.due("their value", Kit.output(hall), "[1073741823, -1073741824, 1073741823]");
    }

    /** "Returns 0 if it has a value, 1 by DIVISION, 2 by BOUND (the output stays then)." */
    private static void theOutputStays() {
        Wasmhall hall = new Wasmhall();
        Kit.loaded(hall, "def f a = [8 / a]; def g a = g a;");
        KIT.due("a value", hall.mean(0, 0, 2, 0, 0), 0);
        KIT.due("DIVISION", hall.mean(0, 0, 0, 0, 0), 1);
        KIT.due("the output stays", Kit.output(hall), "[4]");
        KIT.due("BOUND", hall.mean(0, 1, 0, 0, 0), 2);
        KIT.due("the output stays, too", Kit.output(hall), "[4]");
    }
}
