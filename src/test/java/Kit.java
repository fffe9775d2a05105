/** What the tests share: a count of wrong answers, texts put into a hall, and outputs read from it. */
final class Kit {
    /** The pieces of promise 3. */
    static final String[] PIECES = {"def len l = case l of [] -> 0 | h : t -> 1 + len t end;",
        "def map f l = case l of [] -> [] | h : t -> f h : map f t end;",
        "def sum l a = case l of [] -> a | h : t -> sum t (a + h) end;",
        "def upto n = if n < 1 then [] else n : upto (n - 1);",
        "def swap p = case p of (x, y) -> (y, x) end; def twice f x = f (f x);",
        "def main n = sum (map (fun x -> x * x + n) (upto n)) 0;",
        "def add a b = a + b; def adds = [add 1, add 2, fun x -> x];",
        "def half n = let q = n / 2 in (q, n - 2 * q); def bad n = 10 / (n - n);"};
    private int wrong;
    private int asked;

    void due(String what, long got, long want) {
        asked++;
        if (got != want) {
            wrong++;
            System.out.println(what + " answered " + got + ", due is " + want);
        }
    }

    void due(String what, boolean got, boolean want) {
        due(what, got ? 1 : 0, want ? 1 : 0);
    }

    void due(String what, String got, String want) {
        asked++;
        if (!got.equals(want)) {
            wrong++;
            System.out.println(what + " answered \"" + got + "\", due is \"" + want + "\"");
        }
    }

    /** A call that must throw this and nothing else. */
    void throwing(String what, Class<?> want, Runnable call) {
        asked++;
        Class<?> got = null;
        try {
            call.run();
        } catch (RuntimeException e) {
            got = e.getClass();
        }
        if (got != want) {
            wrong++;
            System.out.println(what + " threw " + got + ", due is " + want);
        }
    }

    /** A call that must throw this and nothing else, and leave all of its hall as it was. */
    void refused(Wasmhall hall, String what, Class<?> want, Runnable call) {
        String before = Look.at(hall);
        throwing(what, want, call);
        due("all is as it was behind " + what, Look.at(hall), before);
    }

    /** Ends the test: with exit code 1 if an answer was wrong. */
    void end() {
        System.out.println(asked + " answers, " + wrong + " of them wrong");
        if (wrong != 0 || asked == 0) {
            System.exit(1);
        }
    }

    /** Puts a text behind the text of the hall. */
    static void put(Wasmhall hall, String text) {
        for (int i = 0; i < text.length(); i += 32) {
            hall.type(eight(text, i), eight(text, i + 8), eight(text, i + 16), eight(text, i + 24));
        }
    }

    /** The eight bytes of a text from a place on as a number; fewer at its end. */
    static long eight(String text, int begin) {
        long eight = 0;
        for (int k = begin; k < begin + 8 && k < text.length(); k++) {
            eight = eight << 8 | text.charAt(k);
        }
        return eight;
    }

    static int loaded(Wasmhall hall, String text) {
        put(hall, text);
        return hall.load();
    }

    static String output(Wasmhall hall) {
        StringBuilder text = new StringBuilder();
        for (int i = 0; hall.output(i) != Wasmhall.NONE; i++) {
            text.append((char) hall.output(i));
        }
        return text.toString();
    }

    static Wasmhall made(String text, int level) {
        Wasmhall hall = new Wasmhall();
        loaded(hall, text);
        hall.make(0, level);
        return hall;
    }

    /** A hall that has read these bytes as its module 0. */
    static Wasmhall read(int... bytes) {
        Wasmhall hall = new Wasmhall();
        putBytes(hall, bytes);
        hall.read();
        return hall;
    }

    /**
     * Holds the fault of a text against its kind and its place: that is where the @ stands, which is no part of the
     * text. Without an @ no fault is due.
     */
    void fault(int kind, String marked) {
        int place = marked.indexOf('@');
        String text = place < 0 ? marked : marked.substring(0, place) + marked.substring(place + 1);
        due("fault of " + text, fault(text), (place < 0 ? 0 : kind) + " " + place);
    }

    /** A text without a fault. */
    void good(String text) {
        fault(0, text);
    }

    /** Fault kind and place of a text, on a hall of its own. */
    static String fault(String text) {
        Wasmhall hall = new Wasmhall();
        put(hall, text);
        return hall.faultKind() + " " + hall.faultPlace();
    }

    static String typeOf(Wasmhall hall, int program, int definition) {
        hall.typeOf(program, definition);
        return output(hall);
    }

    static String code(Wasmhall hall, int module, int function) {
        StringBuilder text = new StringBuilder();
        for (int i = 0; i < hall.functionAt(module, function, 3); i++) {
            int with = hall.opAt(module, function, i, 1);
            text.append(i == 0 ? "" : " ").append(hall.opAt(module, function, i, 0));
            if (with != Wasmhall.NONE || hall.opAt(module, function, i, 0) == 65) {
                text.append(":").append(with);
            }
        }
        return text.toString();
    }

    /** Puts bytes behind the BYTES, eight by eight. */
    static void putBytes(Wasmhall hall, int... bytes) {
        for (int i = 0; i < bytes.length; i += 8) {
            int many = Math.min(8, bytes.length - i);
            long eight = 0;
            for (int k = i; k < i + many; k++) {
                eight = eight << 8 | bytes[k];
            }
            hall.bytes(eight, many);
        }
    }

    static String bytes(Wasmhall hall) {
        StringBuilder text = new StringBuilder();
        for (int i = 0; hall.byteAt(i) != Wasmhall.NONE; i++) {
            text.append(i == 0 ? "" : " ").append(hall.byteAt(i));
        }
        return text.toString();
    }

    private static final String[] NAMES = {"unreachable", "nop", "block", "loop", "if", "else", "end", "br", "br_if",
        "return", "call", "call_indirect", "drop", "select", "get", "set", "tee", "load", "store", "size", "grow",
        "const", "eqz", "eq", "ne", "lt_s", "lt_u", "gt_s", "le_s", "ge_s", "add", "sub", "mul", "div_s", "rem_s",
        "and", "or", "xor", "shl", "shr_s", "shr_u"};
    private static final int[] CODES = {0, 1, 2, 3, 4, 5, 11, 12, 13, 15, 16, 17, 26, 27, 32, 33, 34, 40, 54, 63, 64,
        65, 69, 70, 71, 72, 73, 74, 76, 78, 106, 107, 108, 109, 111, 113, 114, 115, 116, 117, 118};

    static int codeOf(String name) {
        for (int i = 0; i < NAMES.length; i++) {
            if (NAMES[i].equals(name)) {
                return CODES[i];
            }
        }
        throw new IllegalArgumentException(name);
    }

    /** Instructions in words ("get 0, call 1, end"), in the form of code(). An if is one with a value. */
    static String asm(String words) {
        StringBuilder text = new StringBuilder();
        for (String one : words.split(",")) {
            String[] parts = one.trim().split(" ");
            text.append(text.length() == 0 ? "" : " ").append(codeOf(parts[0]));
            if (parts[0].equals("if")) {
                text.append(":127");
            } else if (parts.length > 1) {
                text.append(":").append(parts[1]);
            }
        }
        return text.toString();
    }
}
