/** The bounds that section 2 of the document names, and those of promises 2 to 7: on both sides, each on its own. */
public final class TextBoundsTest {
    private static final Kit KIT = new Kit();
    private static final String EIGHT_BLANKS = "        ";

    public static void main(String[] args) {
        newObject();
        textOf800();
        typeThatWouldPass800();
        pieceUpTo800();
        piecesThereAre();
        piecesToTheLetter();
        bytesOfType();
        clearText();
        namesOfSixSigns();
        namesBeginWithALetter();
        wordsAreNoNames();
        numbersOfNineDigits();
        tokensAsLongAsPossible();
        bytesBetweenTokens();
        bytesThatBeginNoToken();
        fourParameters();
        fourNamesOfAFun();
        namesThereMustBe();
        twelveDefinitions();
        tenOpenOfEachSort();
        tenOpenOfAllSorts();
        openUpToTheEnd();
        bracketsOfBranchesDoNotCount();
        placeIsTheFirstByte();
        placeIsTheLength();
        placeOfWhatCannotStand();
        oneTestAndOneComparison();
        secondNames();
        secondDefinitions();
        atomsThatNothingBinds();
        whatIsBoundWhere();
        kindsInTheirOrder();
        sixPrograms();
        KIT.end();
    }

    /** "Creates a hall without programs, modules and runs; the text, the BYTES and the output are empty." */
    private static void newObject() {
        Wasmhall hall = new Wasmhall();
        KIT.due("the length of the text", hall.type(0, 0, 0, 0), 0);
        KIT.due("no fault", hall.faultKind(), 0);
        KIT.due("no place", hall.faultPlace(), -1);
        KIT.due("no output", hall.output(0), -1);
        KIT.due("no BYTES", hall.byteAt(0), -1);
        KIT.due("no fault of a read()", hall.fault(true) + " " + hall.fault(false), "0 -1");
        KIT.due("nothing meant", hall.meant(0) + " " + hall.meant(1), "0 0");
        KIT.due("a sum of nothing", hall.checksum(), 17);
        KIT.due("a mean of nothing", hall.meanSteps() == 0.0, true);
        KIT.due("no errors", hall.errors(), 0);
        KIT.refused(hall, "definitions(0)", IndexOutOfBoundsException.class, () -> hall.definitions(0));
        KIT.refused(hall, "moduleAt(0, 0)", IndexOutOfBoundsException.class, () -> hall.moduleAt(0, 0));
        KIT.refused(hall, "runAt(0, 0)", IndexOutOfBoundsException.class, () -> hall.runAt(0, 0));
        KIT.due("NONE", Wasmhall.NONE, -1);
    }

    private static void fill(Wasmhall hall, int length) {
        while (hall.type(0, 0, 0, 0) + 8 <= length) {
            hall.type(Kit.eight(EIGHT_BLANKS, 0), 0, 0, 0);
        }
        while (hall.type(0, 0, 0, 0) < length) {
            hall.type(' ', 0, 0, 0);
        }
    }

    /** "The TEXT has at most 800 bytes." */
    private static void textOf800() {
        Wasmhall hall = new Wasmhall();
        fill(hall, 799);
        KIT.due("the 800th byte", hall.type(';', 0, 0, 0), 800);
        KIT.refused(hall, "an 801st byte", IllegalStateException.class, () -> hall.type(0, 0, 0, 32));
        KIT.due("four numbers of 0 put nothing", hall.type(0, 0, 0, 0), 800);
        KIT.due("the 800th byte is looked at", hall.faultPlace(), 799);
        KIT.due("clearText()", hall.clearText(), 800);
        KIT.due("there is room again", hall.type(-1, -1, -1, -1), 32);
    }

    /** "if it would be above 800": a call is taken as a whole, or not at all. */
    private static void typeThatWouldPass800() {
        Wasmhall hall = new Wasmhall();
        fill(hall, 790);
        KIT.refused(hall, "eleven bytes more", IllegalStateException.class,
            () -> hall.type(Kit.eight(EIGHT_BLANKS, 0), 0, 0x202020L, 0));
        KIT.due("ten bytes more", hall.type(Kit.eight(EIGHT_BLANKS, 0), 0, 0x2000000020L, 0), 800);
        Wasmhall whole = new Wasmhall();
        for (int i = 1; i <= 25; i++) {
            KIT.due("32 bytes more", whole.type(-1, -1, -1, -1), 32 * i);
        }
        KIT.refused(whole, "32 bytes beyond", IllegalStateException.class, () -> whole.type(-1, -1, -1, -1));
    }

    /** "Throws IllegalArgumentException if which is out of range; IllegalStateException if it would be above 800." */
    private static void pieceUpTo800() {
        int[] lengths = {55, 62, 61, 52, 69, 55, 59, 71};
        for (int which = 0; which < 8; which++) {
            int one = which;
            Wasmhall hall = new Wasmhall();
            fill(hall, 801 - lengths[which]);
            KIT.refused(hall, "piece(" + which + ") up to 801", IllegalStateException.class, () -> hall.piece(one));
            KIT.refused(hall, "piece(8) there", IllegalArgumentException.class, () -> hall.piece(8));
            hall.clearText();
            fill(hall, 800 - lengths[which]);
            KIT.due("piece(" + which + ") up to 800", hall.piece(which), 800);
        }
    }

    /** "which: 0 to 7" */
    private static void piecesThereAre() {
        Wasmhall hall = new Wasmhall();
        KIT.refused(hall, "piece(-1)", IllegalArgumentException.class, () -> hall.piece(-1));
        KIT.refused(hall, "piece(8)", IllegalArgumentException.class, () -> hall.piece(8));
        KIT.refused(hall, "piece(MIN)", IllegalArgumentException.class, () -> hall.piece(Integer.MIN_VALUE));
        KIT.refused(hall, "piece(MAX)", IllegalArgumentException.class, () -> hall.piece(Integer.MAX_VALUE));
        KIT.due("piece(0)", hall.piece(0), 55);
        KIT.due("piece(7)", hall.piece(7), 55 + 71);
        KIT.due("both have no fault", hall.faultKind(), 0);
    }

    /** "Puts one of these pieces behind the text": their places of faults and their modules are those of the same typed. */
    private static void piecesToTheLetter() {
        for (int which = 0; which < 8; which++) {
            String ahead = which == 5 ? Kit.PIECES[1] + Kit.PIECES[2] + Kit.PIECES[3] : "";
            Wasmhall hall = new Wasmhall();
            Kit.put(hall, ahead);
            KIT.due("piece(" + which + ")", hall.piece(which), ahead.length() + Kit.PIECES[which].length());
            hall.load();
            Kit.loaded(hall, ahead + Kit.PIECES[which]);
            for (int level = 0; level < 2; level++) {
                hall.make(0, level);
                hall.make(1, level);
                KIT.due("piece(" + which + ") is the text", hall.same(2 * level, 2 * level + 1), true);
            }
            // Each blank stands: a fault behind the piece and one within it have the same places.
            for (String behind : new String[] {"?", "x", "def f = 1 + yes;"}) {
                hall.piece(which);
                Kit.put(hall, behind);
                String got = hall.faultKind() + " " + hall.faultPlace();
                hall.clearText();
                KIT.due("the fault of piece(" + which + ") and " + behind, got, Kit.fault(Kit.PIECES[which] + behind));
            }
        }
    }

    /** "of each one the highest byte first, without those that are 0" */
    private static void bytesOfType() {
        Wasmhall hall = new Wasmhall();
        KIT.due("the highest byte of the first number", hall.type('d' * (1L << 56), 'e', 'f' * (1L << 56), ' '), 4);
        KIT.due("zeros in between", hall.type(0x0066000020003D00L, 0, 0x31L << 32, 0x3B), 9);
        KIT.due("that is def f =1;", hall.load(), 0);
        KIT.due("negative numbers have eight bytes", hall.type(-1, 0, 0, 0), 8);
        KIT.due("each of them 255", hall.faultPlace(), 0);
    }

    private static void clearText() {
        Wasmhall hall = new Wasmhall();
        KIT.due("clearText() of nothing", hall.clearText(), 0);
        hall.type('d', 0, 0, 0);
        KIT.due("a fault", hall.faultKind(), 1);
        KIT.due("clearText() of one byte", hall.clearText(), 1);
        KIT.due("no fault of nothing", hall.faultKind(), 0);
    }

    /** "names (... at most 6 signs)", "a name or number that is too long" */
    private static void namesOfSixSigns() {
        KIT.good("def a = 1;");
        KIT.good("def abcdef = 1;");
        KIT.fault(1, "def @abcdefg = 1;");
        KIT.good("def f uvwxyz = uvwxyz;");
        KIT.fault(1, "def f @tuvwxyz = 1;");
        KIT.fault(1, "def f uvwxyz = @tuvwxyz;");
        KIT.good("def a12345 = 1;");
        KIT.fault(1, "def @a123456 = 1;");
        KIT.good("def f = let zzzzzz = 1 in zzzzzz;");
        KIT.fault(1, "def f = let @zzzzzzz = 1 in 1;");
        KIT.good("def f = fun abcdef -> 1;");
        KIT.fault(1, "def f = fun @abcdefg -> 1;");
        KIT.fault(1, "@definit f = 1;");
        // Six signs tell two names apart to the last one, digits from letters, too.
        KIT.good("def f abcdef abcdeg abcde0 abcde = abcdeg;");
        KIT.fault(2, "def f a99999 z99999 = @a99998;");
        KIT.good("def b0 = 1; def aj = 2; def a9 = 3; def b = 4; def aa = 5; def a = 6; def k = 7; def j = 8; def bz = 9; def c0 = 1;");
    }

    /** "rows of letters a to z and digits that begin with a letter" */
    private static void namesBeginWithALetter() {
        KIT.good("def f a0z9 = a0z9;");
        KIT.fault(1, "def @1f = 1;");
        KIT.fault(3, "def f a = 1 @2;");
        KIT.fault(3, "def f a = 1@a;");
        KIT.fault(1, "def @F = 1;");
        KIT.fault(1, "def f@_g = 1;");
        KIT.fault(1, "def f@` = 1;");
        KIT.fault(1, "def f@{ = 1;");
        KIT.good("def az = let za = 1 in za;");
    }

    /** "The words def, let, in, if, then, else, fun, case, of, end, yes and no are no NAMES." */
    private static void wordsAreNoNames() {
        String[] words = {"def", "let", "in", "if", "then", "else", "fun", "case", "of", "end", "yes", "no"};
        for (String word : words) {
            KIT.fault(1, "def @" + word + " = 1;");
            KIT.fault(1, "def f = let @" + word + " = 1 in 2;");
            KIT.fault(1, "def f = fun @" + word + " -> 2;");
            KIT.fault(1, "def f = case [] of [] -> 1 | h : @" + word + " -> 1 end;");
            KIT.good("def " + word + "1 = 1;");
            KIT.good("def f " + word + "x = " + word + "x;");
        }
        KIT.fault(1, "def f @def = 1;");
        KIT.fault(1, "def f x @in = 1;");
        KIT.good("def de = 1; def lets = 1; def i = 1; def yess = 1;");
    }

    /** "numbers (rows of at most 9 digits)" */
    private static void numbersOfNineDigits() {
        KIT.good("def f = 999999999;");
        KIT.fault(1, "def f = @1000000000;");
        KIT.good("def f = 000000000;");
        KIT.fault(1, "def f = @0000000000;");
        KIT.fault(1, "def f = 1 + @12345678901234567890;");
        Wasmhall hall = new Wasmhall();
        Kit.loaded(hall, "def f = (000000007, 999999999);");
        hall.mean(0, 0, 0, 0, 0);
        KIT.due("zeros ahead do not matter", Kit.output(hall), "(7, 999999999)");
    }

    /** "each as long as possible" */
    private static void tokensAsLongAsPossible() {
        KIT.good("def f a = a<=1;");
        KIT.good("def f a = a==1;");
        KIT.good("def f a = a<1;");
        KIT.fault(1, "def f a = a< @=1;");
        KIT.fault(1, "def f a = a<=@=1;");
        KIT.fault(1, "def f a = a==@=1;");
        KIT.fault(1, "def f a @== 1;");
        KIT.good("def f=fun a->a;");
        KIT.fault(1, "def f a = a@->1;");
        KIT.fault(1, "def f = fun a @- > a;");
        KIT.fault(1, "def f = 1 @> 2;");
        KIT.good("def f a = a-1;");
        KIT.fault(1, "def f a = a-@-1;");
        KIT.fault(1, "@deff a = 1;");
        KIT.fault(2, "def f = @yesno;");
        KIT.fault(3, "def f = yes @no;");
    }

    /** "The bytes 32 and 10 stand between tokens where they like ... ahead of the first token and behind the last ;" */
    private static void bytesBetweenTokens() {
        KIT.good("");
        KIT.good(" ");
        KIT.good("\n");
        KIT.good(" \n\n  def\nf \n=\n \n1\n;\n ");
        KIT.good("def f a=[(a,(a,a))];");
        KIT.good("def f=1;def g=2;");
        KIT.fault(2, "def ab = @a b;");
        KIT.fault(3, "def f = 1 @2;");
        KIT.fault(1, "def f a = a < @= 1;");
        KIT.fault(1, "def f = fun a @- > a;");
    }

    /** "a byte that begins no token" */
    private static void bytesThatBeginNoToken() {
        String known = "abcdefghijklmnopqrstuvwxyz0123456789=;-()[],:|+*/%< \n";
        for (int sign = 1; sign < 256; sign++) {
            if (known.indexOf(sign) < 0) {
                KIT.fault(1, "def f = 1@" + (char) sign + ";");
                KIT.fault(1, "@" + (char) sign);
            }
        }
        for (int sign : new int[] {9, 11, 13, 31, 33, 128, 160, 255}) {
            KIT.fault(1, "def f = 1;@" + (char) sign);
        }
        for (char sign : "=;)],:|+-*/%<".toCharArray()) {
            KIT.fault(1, "@" + sign);
        }
    }

    /** "PARAMETERS (the names behind it, at most 4)", "a 5th parameter" */
    private static void fourParameters() {
        KIT.good("def f = 1;");
        KIT.good("def f a b c d = 1;");
        KIT.fault(1, "def f a b c d @e = 1;");
        KIT.fault(1, "def f a b c d @e");
        KIT.fault(1, "def f a b a d @e = 1;");
    }

    /** "a fun its names (at most 4)", "a 5th ... name of a fun" */
    private static void fourNamesOfAFun() {
        KIT.good("def f = fun a -> 1;");
        KIT.good("def f = fun a b c d -> 1;");
        KIT.fault(1, "def f = fun a b c d @e -> 1;");
        KIT.good("def f p q r s = fun a b c d -> fun e g h i -> 1;");
    }

    private static void namesThereMustBe() {
        KIT.fault(1, "def @= 1;");
        KIT.fault(1, "def f = fun @-> 1;");
        KIT.fault(1, "def f = let @= 1 in 1;");
        KIT.fault(1, "def f = let x @y = 1 in 1;");
        KIT.fault(1, "def f = case [] of [] -> 1 | @: t -> 2 end;");
        KIT.fault(1, "def f = case [] of [] -> 1 | h @-> 2 end;");
        KIT.fault(1, "def f = case [] of [] -> 1 | h : t @u -> 2 end;");
        KIT.fault(1, "def f = case [] of (a@) -> 2 end;");
        KIT.fault(1, "def f = case [] of (a, b@, c) -> 2 end;");
        KIT.fault(1, "def f = case [] of (@1, b) -> 2 end;");
    }

    /** "a "def" that would be the 13th" */
    private static void twelveDefinitions() {
        StringBuilder text = new StringBuilder();
        for (int i = 1; i <= 12; i++) {
            text.append("def f").append(i).append(" = 1; ");
            KIT.good(text.toString());
        }
        KIT.fault(1, text + "@def");
        KIT.fault(1, text + "@def g = 1;");
        KIT.fault(1, text + "@def f1 = x;");
        Wasmhall hall = new Wasmhall();
        Kit.loaded(hall, text.toString());
        KIT.due("definitions", hall.definitions(0), 12);
    }

    /** "a "(", "[", let, if, fun or case while 10 of these are open": each sort within itself. */
    private static void tenOpenOfEachSort() {
        KIT.good("def f = " + "(".repeat(10) + "1" + ")".repeat(10) + ";");
        KIT.fault(1, "def f = " + "(".repeat(10) + "@(1" + ")".repeat(11) + ";");
        KIT.good("def f = " + "(1, ".repeat(10) + "1" + ")".repeat(10) + ";");
        KIT.fault(1, "def f = " + "(1, ".repeat(10) + "@(1, 1" + ")".repeat(11) + ";");
        KIT.good("def f = " + "[".repeat(10) + "]".repeat(10) + ";");
        KIT.fault(1, "def f = " + "[".repeat(10) + "@[" + "]".repeat(11) + ";");
        KIT.good("def f = " + "let a = 1 in ".repeat(10) + "a;");
        KIT.fault(1, "def f = " + "let a = 1 in ".repeat(10) + "@let a = 1 in a;");
        KIT.good("def f = " + "let a = ".repeat(10) + "1" + " in a".repeat(10) + ";");
        KIT.fault(1, "def f = " + "let a = ".repeat(10) + "@let a = 1" + " in a".repeat(11) + ";");
        KIT.good("def f = " + "if yes then 1 else ".repeat(10) + "2;");
        KIT.fault(1, "def f = " + "if yes then 1 else ".repeat(10) + "@if yes then 1 else 2;");
        KIT.good("def f = " + "if ".repeat(10) + "yes" + " then yes else no".repeat(10) + ";");
        KIT.fault(1, "def f = " + "if ".repeat(10) + "@if yes" + " then yes else no".repeat(11) + ";");
        KIT.good("def f = " + "if yes then ".repeat(10) + "1" + " else 2".repeat(10) + ";");
        KIT.fault(1, "def f = " + "if yes then ".repeat(10) + "@if yes then 1" + " else 2".repeat(11) + ";");
        KIT.good("def f = " + "fun a -> ".repeat(10) + "a;");
        KIT.fault(1, "def f = " + "fun a -> ".repeat(10) + "@fun a -> a;");
        KIT.good("def f l = " + "case l of [] -> 1 | h : t -> ".repeat(10) + "2" + " end".repeat(10) + ";");
        KIT.fault(1, "def f l = " + "case l of [] -> 1 | h : t -> ".repeat(10) + "@case l of [] -> 1 | h : t -> 2"
            + " end".repeat(11) + ";");
        KIT.good("def f l = " + "case l of [] -> ".repeat(10) + "1" + " | h : t -> 2 end".repeat(10) + ";");
        KIT.fault(1, "def f l = " + "case l of [] -> ".repeat(10) + "@case l of [] -> 1" + " | h : t -> 2 end".repeat(11)
            + ";");
        KIT.good("def f p = " + "case p of (a, b) -> ".repeat(10) + "2" + " end".repeat(10) + ";");
        KIT.fault(1, "def f p = " + "case p of (a, b) -> ".repeat(10) + "@case p of (a, b) -> 2" + " end".repeat(11) + ";");
        KIT.good("def f p = " + "case ".repeat(10) + "p" + " of (a, b) -> a end".repeat(10) + ";");
        KIT.fault(1, "def f p = " + "case ".repeat(10) + "@case p" + " of (a, b) -> a end".repeat(11) + ";");
    }

    /** The sorts count together: with nine brackets around them, one more of any sort, but no second one in it. */
    private static void tenOpenOfAllSorts() {
        String[] sorts = {"(1)", "[1]", "(1, 2)", "let a = 1 in a", "if yes then 1 else 2", "fun a -> a",
            "case l of [] -> 1 | h : t -> 2 end", "case p of (a, b) -> a end"};
        for (String sort : sorts) {
            KIT.good("def f l p = " + "(".repeat(9) + sort + ")".repeat(9) + ";");
            KIT.fault(1, "def f l p = " + "(".repeat(10) + "@" + sort + ")".repeat(10) + ";");
            KIT.good("def f l p = " + "[".repeat(9) + sort + "]".repeat(9) + ";");
            KIT.fault(1, "def f l p = " + "[".repeat(10) + "@" + sort + "]".repeat(10) + ";");
        }
        KIT.good("def f l = (let a = [if yes then fun x -> case l of [] -> (1, [let b = 2 in (b)]) | h : t -> (2, []) end"
            + " else fun x -> (3, [])] in a);");
        KIT.fault(1, "def f l = (let a = [if yes then fun x -> case l of [] -> (1, [let b = 2 in (@(b))]) | h : t -> 1 end"
            + " else fun x -> (3, [])] in a);");
    }

    /** "open (up to the end of what the grammar tells behind them ...)" */
    private static void openUpToTheEnd() {
        KIT.good("def f = " + "(".repeat(10) + "1" + ")".repeat(10) + " + " + "(".repeat(10) + "1" + ")".repeat(10) + ";");
        KIT.good("def f = " + "(".repeat(9) + "(1) + (1)" + ")".repeat(9) + ";");
        KIT.good("def f = " + "[".repeat(9) + "[1], [2], [3]" + "]".repeat(9) + ";");
        // A let ends with its exp behind in, an if behind else: the next exp of the list stands outside of it.
        KIT.good("def f = " + "[".repeat(9) + "let a = 1 in a, let a = 1 in a" + "]".repeat(9) + ";");
        KIT.good("def f = " + "[".repeat(9) + "if yes then 1 else 2, if no then 1 else 2" + "]".repeat(9) + ";");
        KIT.good("def f = " + "[".repeat(9) + "fun a -> a, fun a -> a" + "]".repeat(9) + ";");
        KIT.good("def f l = " + "[".repeat(9) + "case l of [] -> 1 | h : t -> 2 end, let a = 1 in a" + "]".repeat(9) + ";");
        KIT.fault(1, "def f = " + "[".repeat(9) + "let a = @(1) in a" + "]".repeat(9) + ";");
        KIT.fault(1, "def f = " + "[".repeat(9) + "let a = 1 in @(a)" + "]".repeat(9) + ";");
        KIT.fault(1, "def f = " + "[".repeat(9) + "if @(yes) then 1 else 2" + "]".repeat(9) + ";");
        KIT.fault(1, "def f = " + "[".repeat(9) + "if yes then @(1) else 2" + "]".repeat(9) + ";");
        KIT.fault(1, "def f = " + "[".repeat(9) + "if yes then 1 else @(2)" + "]".repeat(9) + ";");
        KIT.fault(1, "def f = " + "[".repeat(9) + "fun a -> @(a)" + "]".repeat(9) + ";");
        KIT.fault(1, "def f l = " + "[".repeat(9) + "case @(l) of [] -> 1 | h : t -> 2 end" + "]".repeat(9) + ";");
        KIT.fault(1, "def f l = " + "[".repeat(9) + "case l of [] -> @[1] | h : t -> [2] end" + "]".repeat(9) + ";");
        KIT.fault(1, "def f l = " + "[".repeat(9) + "case l of [] -> 1 | h : t -> @(2) end" + "]".repeat(9) + ";");
        KIT.fault(1, "def f = 1 + " + "(".repeat(10) + "f @(1)" + ")".repeat(10) + ";");
        // Each definition begins with none open.
        KIT.good("def f = " + "(".repeat(10) + "1" + ")".repeat(10) + "; def g = " + "(".repeat(10) + "1" + ")".repeat(10)
            + ";");
    }

    /** ""(" and "[" of branches do not count" */
    private static void bracketsOfBranchesDoNotCount() {
        KIT.good("def f l = " + "(".repeat(9) + "case l of [] -> 1 | h : t -> 2 end" + ")".repeat(9) + ";");
        KIT.good("def f p = " + "(".repeat(9) + "case p of (a, b) -> 1 end" + ")".repeat(9) + ";");
        KIT.fault(1, "def f l = " + "(".repeat(10) + "@case l of [] -> 1 | h : t -> 2 end" + ")".repeat(10) + ";");
    }

    /** "The place of a fault is the first byte of the token" */
    private static void placeIsTheFirstByte() {
        KIT.fault(1, "@abc");
        KIT.fault(1, "  \n @abc");
        KIT.fault(1, "def f = 1; @ghi j = 2;");
        KIT.fault(1, "def f \n @-> 1;");
        KIT.fault(1, "def f = 1   @then 2;");
        KIT.fault(1, "def f = 1 < 2 @<= 3;");
        KIT.fault(2, "def f = \n  @abcdef;");
        KIT.fault(3, "def f = 1 + \n  @yes;");
    }

    /** "or the length of the text, if it ends too early" */
    private static void placeIsTheLength() {
        String text = "def f a = let b = if a < 1 then [a] else case [a] of [] -> [] | h : t -> (t) end in (fun c d -> b, 2);";
        int[] tokens = {3, 5, 7, 9, 13, 15, 17, 20, 22, 24, 26, 31, 33, 34, 35, 40, 45, 47, 48, 49, 52, 54, 55, 58, 60, 61,
            63, 65, 67, 69, 72, 74, 75, 76, 80, 83, 85, 88, 90, 92, 95, 97, 98, 100, 101};
        for (int end : tokens) {
            KIT.fault(1, text.substring(0, end) + "@");
            KIT.fault(1, text.substring(0, end) + " \n @");
        }
        KIT.good(text);
    }

    /** "the first token that cannot stand where it stands", sort by sort of the grammar */
    private static void placeOfWhatCannotStand() {
        KIT.fault(1, "def f = @;");
        KIT.fault(1, "def f = 1;@;");
        KIT.fault(1, "def f = let a @: 1 in 1;");
        KIT.fault(1, "def f = let a = 1 @then 1;");
        KIT.fault(1, "def f = if yes @else 1;");
        KIT.fault(1, "def f = if yes then 1@;");
        KIT.fault(1, "def f = fun a @= 1;");
        KIT.fault(1, "def f = case 1 @end;");
        KIT.fault(1, "def f = case 1 of @end;");
        KIT.fault(1, "def f = case 1 of @;");
        KIT.fault(1, "def f = case 1 of @1 -> 1 end;");
        KIT.fault(1, "def f = case 1 of [@a] -> 1 end;");
        KIT.fault(1, "def f = case 1 of [] @= 1 end;");
        KIT.fault(1, "def f = case 1 of [] -> 1 @end;");
        KIT.fault(1, "def f = case 1 of [] -> 1 | h @, t -> 2 end;");
        KIT.fault(1, "def f = case 1 of [] -> 1 | h : t -> 2@;");
        KIT.fault(1, "def f = case 1 of (a @: b) -> 1 end;");
        KIT.fault(1, "def f = case 1 of (a, b) -> 1 @| h : t -> 2 end;");
        KIT.fault(1, "def f = [@, 1];");
        KIT.fault(1, "def f = [1,@];");
        KIT.fault(1, "def f = [1 @) ;");
        KIT.fault(1, "def f = (@);");
        KIT.fault(1, "def f = (1 @];");
        KIT.fault(1, "def f = (1, 2@, 3);");
        KIT.fault(1, "def f = 1 + @* 2;");
        KIT.fault(1, "def f = 1 : @;");
        KIT.fault(1, "def f = @+ 1;");
        KIT.fault(1, "def f = 1@);");
        KIT.fault(1, "def f = 1@];");
        KIT.fault(1, "def f = f @let a = 1 in a;");
        KIT.fault(1, "def f = 1 : @fun a -> a;");
        KIT.fault(1, "def f = 1 == @case [] of [] -> 1 | h : t -> 2 end;");
        KIT.fault(1, "def f = (1)@def g = 2;");
    }

    /** "test = cell [ ( "<" | "<=" | "==" ) cell ]": one of them, not two. */
    private static void oneTestAndOneComparison() {
        KIT.good("def f = 1 < 2;");
        KIT.fault(1, "def f = 1 < 2 @< 3;");
        KIT.fault(1, "def f = 1 < 2 @== 3;");
        KIT.fault(3, "def f = @(1 < 2) < 3;");
        KIT.fault(3, "def f = 1 == @(2 == 3);");
    }

    /** "a second one among the parameters, the names of a fun, or the two of a branch" */
    private static void secondNames() {
        KIT.fault(2, "def f a @a = 1;");
        KIT.fault(2, "def f a b c @a = 1;");
        KIT.fault(2, "def f a @a a = 1;");
        KIT.fault(2, "def f = fun a @a -> 1;");
        KIT.fault(2, "def f = fun a b c @b -> 1;");
        KIT.fault(2, "def f = case [] of [] -> 1 | h : @h -> 2 end;");
        KIT.fault(2, "def f = case (1, 2) of (h, @h) -> 2 end;");
        KIT.good("def f a b c d = fun a b c d -> let a = a in case [] of [] -> 1 | a : b -> case (a, b) of (a, b) -> a end"
            + " end;");
        KIT.good("def a a = a;");
        KIT.good("def f = fun f -> f;");
        KIT.good("def f = let a = 1 in let a = 2 in a;");
    }

    /** "a second definition of its name" */
    private static void secondDefinitions() {
        KIT.fault(2, "def f = 1; def @f = 2;");
        KIT.fault(2, "def f = 1; def g = 2; def h = 3; def @g a a = 2;");
        KIT.good("def f = 1; def f1 = 2; def f2 f1 = 3;");
    }

    /** "an atom that nothing binds" */
    private static void atomsThatNothingBinds() {
        KIT.fault(2, "def f = @x;");
        KIT.fault(2, "def f = @g; def g = 1;");
        KIT.good("def g = 1; def f = g;");
        KIT.good("def f = f;");
        KIT.fault(2, "def f a = 1; def g = @a;");
        KIT.fault(2, "def f = let a = @a in a;");
        KIT.fault(2, "def f = (let a = 1 in a) + @a;");
        KIT.fault(2, "def f = (fun a -> a) @a;");
        KIT.fault(2, "def f = case @h of [] -> 1 | h : t -> 2 end;");
        KIT.fault(2, "def f = case [] of [] -> @h | h : t -> 2 end;");
        KIT.fault(2, "def f = (case (1, 2) of (a, b) -> a end) + @b;");
    }

    /** "A NAME as an atom is that which binds it and stands around it nearest; if there is none, the definition" */
    private static void whatIsBoundWhere() {
        Wasmhall hall = new Wasmhall();
        Kit.loaded(hall, "def a = 1; def b a = (a, let a = a + 1 in (a, (fun a -> a + 1) a)); "
            + "def c n = case [n] of [] -> a | a : n -> a + 1 end; def f f = f; def g n = let a = a in a + n;");
        String[] due = {"1", "(5, (6, 7))", "6", "5", "6"};
        for (int d = 0; d < due.length; d++) {
            hall.mean(0, d, 5, 0, 0);
            KIT.due("definition " + d, Kit.output(hall), due[d]);
        }
    }

    /** "Kind 2, if there is none", "Kind 3, if there is none", and "the first NAME, by its place" */
    private static void kindsInTheirOrder() {
        KIT.fault(1, "def f a a = x + yes; @g");
        KIT.fault(1, "def f a a = x + yes;@?");
        KIT.fault(2, "def f a @a = x + yes;");
        KIT.fault(2, "def f a = @x + yes;");
        KIT.fault(2, "def f = 1 + yes; def g = @x;");
        KIT.fault(2, "def f = 1; def @f a a = x;");
        KIT.fault(2, "def f = @x; def f = 1;");
        KIT.fault(3, "def f = 1 + @yes; def g = 2 + yes;");
    }

    /** "Throws IllegalStateException if the text has a fault, or there are 6 programs" */
    private static void sixPrograms() {
        Wasmhall hall = new Wasmhall();
        for (int i = 0; i < 6; i++) {
            KIT.due("load()", Kit.loaded(hall, "def f = " + i + ";"), i);
            KIT.due("the text is empty", hall.type(0, 0, 0, 0), 0);
        }
        Kit.put(hall, "def g = 1;");
        KIT.refused(hall, "a 7th load()", IllegalStateException.class, hall::load);
        KIT.due("the text stays", hall.clearText(), 10);
        KIT.refused(hall, "a 7th load() of no text", IllegalStateException.class, hall::load);
        for (String text : new String[] {"def f", "def f = x;", "def f = 1 + yes;"}) {
            Wasmhall other = new Wasmhall();
            Kit.put(other, text);
            KIT.refused(other, "load() of " + text, IllegalStateException.class, other::load);
            KIT.due("the text stays with " + text, other.clearText(), text.length());
            KIT.due("load() of an empty text", other.load(), 0);
        }
    }
}
