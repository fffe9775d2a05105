/** Promises 19 to 27: bytes, and modules written and read. */
public final class BytesTest {
    private static final Kit KIT = new Kit();
    private static final int[] TYPES = Bytes.section(1, Bytes.row(Bytes.type(1, 1), Bytes.type(1, 0), Bytes.type(2, 1),
        Bytes.type(0, 1), Bytes.type(0, 0)));

    public static void main(String[] args) {
        rows();
        bounds();
        roundTrips();
        otherForms();
        faultsOfHead();
        faultsOfNumbers();
        faultsOfSections();
        tooMany();
        tooManyInstructions();
        faultsOfSense();
        invalidOnes();
        validOnes();
        sameness();
        clearing();
        KIT.end();
    }

    private static void rows() {
        Wasmhall hall = new Wasmhall();
        KIT.due("bytes(0x010203, 2)", hall.bytes(0x010203, 2), 2);
        KIT.due("bytes(-1, 8)", hall.bytes(-1, 8), 10);
        KIT.due("bytes(0, 1)", hall.bytes(0, 1), 11);
        KIT.due("the BYTES", Kit.bytes(hall), "2 3 255 255 255 255 255 255 255 255 0");
        KIT.due("byteAt(-1)", hall.byteAt(-1), Wasmhall.NONE);
        KIT.due("byteAt(11)", hall.byteAt(11), Wasmhall.NONE);
        KIT.due("setByte(2, 7)", hall.setByte(2, 7), 255);
        KIT.due("setByte(2, 255)", hall.setByte(2, 255), 7);
        KIT.throwing("setByte(11, 256)", IndexOutOfBoundsException.class, () -> hall.setByte(11, 256));
        KIT.throwing("setByte(-1, 0)", IndexOutOfBoundsException.class, () -> hall.setByte(-1, 0));
        KIT.throwing("setByte(0, 256)", IllegalArgumentException.class, () -> hall.setByte(0, 256));
        KIT.throwing("setByte(0, -1)", IllegalArgumentException.class, () -> hall.setByte(0, -1));
        KIT.throwing("bytes(0, 0)", IllegalArgumentException.class, () -> hall.bytes(0, 0));
        KIT.throwing("bytes(0, 9)", IllegalArgumentException.class, () -> hall.bytes(0, 9));
        KIT.throwing("cutBytes(12)", IllegalArgumentException.class, () -> hall.cutBytes(12));
        KIT.throwing("cutBytes(-1)", IllegalArgumentException.class, () -> hall.cutBytes(-1));
        KIT.due("cutBytes(3)", hall.cutBytes(3), 11);
        KIT.due("the first three stay", Kit.bytes(hall), "2 3 255");
        KIT.due("cutBytes(3) again", hall.cutBytes(3), 3);
        KIT.due("cutBytes(0)", hall.cutBytes(0), 3);
    }

    private static void bounds() {
        Wasmhall hall = new Wasmhall();
        for (int i = 0; i < 2500; i++) {
            hall.bytes(i, 8);
        }
        KIT.throwing("a 20001st byte", IllegalStateException.class, () -> hall.bytes(0, 1));
        KIT.throwing("nine bytes though it is full", IllegalArgumentException.class, () -> hall.bytes(0, 9));
        hall.cutBytes(19995);
        KIT.throwing("six bytes more", IllegalStateException.class, () -> hall.bytes(0, 6));
        KIT.due("five bytes more", hall.bytes(0, 5), 20000);
        // A module that is read from just 20000 bytes, and has more as it is written, with all sections.
        int[] codes = Bytes.repeat(3, Bytes.code(0, Bytes.repeat(5990, 1)));
        int[] last = Bytes.code(0, Bytes.repeat(20000 - 8 - 6 - 7 - 5 - codes.length - 4, 1));
        int[] module = Bytes.module(Bytes.section(1, Bytes.row(Bytes.type(0, 0))),
            Bytes.section(3, Bytes.of(4, 0, 0, 0, 0)), Bytes.of(10), Bytes.sized(Bytes.join(Bytes.of(4), codes, last)));
        KIT.due("the length of the module", module.length, 20000);
        hall.cutBytes(0);
        Kit.putBytes(hall, module);
        KIT.due("read()", hall.read(), 0);
        KIT.due("bytes as written", hall.moduleAt(0, 5), 20009);
        KIT.throwing("write(0)", IllegalStateException.class, () -> hall.write(0));
        KIT.due("the BYTES stay", hall.cutBytes(20000), 20000);
        KIT.due("errors()", hall.errors(), 0);
    }

    private static void roundTrips() {
        for (int level = 0; level < 2; level++) {
            Wasmhall hall = new Wasmhall();
            for (int i = 0; i < 8; i++) {
                hall.piece(i);
            }
            hall.load();
            hall.make(0, level);
            int length = hall.write(0);
            KIT.due("write(0)", length, hall.moduleAt(0, 5));
            KIT.due("as many BYTES", hall.cutBytes(length), length);
            KIT.due("read()", hall.read(), 1);
            KIT.due("fault(true)", hall.fault(true), 0);
            KIT.due("fault(false)", hall.fault(false), Wasmhall.NONE);
            KIT.due("same(0, 1)", hall.same(0, 1), true);
            KIT.due("moduleAt(1, 6)", hall.moduleAt(1, 6), 0);
            String before = Kit.bytes(hall);
            hall.write(1);
            KIT.due("the same bytes", Kit.bytes(hall), before);
        }
        Wasmhall hall = new Wasmhall();
        KIT.throwing("write(0) of none", IndexOutOfBoundsException.class, () -> hall.write(0));
        KIT.throwing("same(0, 0) of none", IndexOutOfBoundsException.class, () -> hall.same(0, 0));
        KIT.due("fault(true) ahead of any", hall.fault(true), 0);
        KIT.due("fault(false) ahead of any", hall.fault(false), Wasmhall.NONE);
    }

    private static void reading(String what, int[] bytes, int kind, int place) {
        Wasmhall hall = new Wasmhall();
        Kit.putBytes(hall, bytes);
        KIT.due("read() of " + what, hall.read(), kind == 0 ? 0 : Wasmhall.NONE);
        KIT.due("kind of " + what, hall.fault(true), kind);
        KIT.due("place of " + what, hall.fault(false), place);
        KIT.due("the BYTES stay with " + what, hall.cutBytes(0), bytes.length);
    }

    private static void good(String what, int[] bytes) {
        reading(what, bytes, 0, -1);
    }

    private static void otherForms() {
        good("a head alone", Bytes.head());
        good("long numbers", Bytes.module(Bytes.of(1, 0x88, 0x80, 0x80, 0x80, 0), Bytes.of(0x81, 0, 96, 0x81, 0, 127,
            0x80, 0)));
        Wasmhall hall = new Wasmhall();
        Kit.putBytes(hall, Bytes.module(Bytes.section(1, Bytes.row(Bytes.type(0, 0))), Bytes.section(3, Bytes.of(1, 0)),
            Bytes.section(10, Bytes.row(Bytes.sized(Bytes.of(3, 2, 127, 0, 127, 0x83, 0, 127, 65, 0x85, 0x80, 0x80, 0x80,
                0, 65, 0xff, 0xff, 0xff, 0xff, 0x7f, 26, 26, 11))))));
        KIT.due("read()", hall.read(), 0);
        KIT.due("locals together", hall.functionAt(0, 0, 2), 5);
        KIT.due("the numbers", Kit.code(hall, 0, 0), "65:5 65:-1 26 26 11");
        hall.write(0);
        KIT.due("as it is written", Kit.bytes(hall), "0 97 115 109 1 0 0 0 1 4 1 96 0 0 2 1 0 3 2 1 0 7 1 0 9 1 0"
            + " 10 12 1 10 1 5 127 65 5 65 127 26 26 11");
        good("words of all sizes", Bytes.module(TYPES, Bytes.section(3, Bytes.of(1, 4)), Bytes.section(10, Bytes.row(
            Bytes.code(0, Bytes.of(65, 0xff, 0xff, 0xff, 0xff, 7, 26, 65, 0x80, 0x80, 0x80, 0x80, 0x78, 26))))));
    }

    private static void faultsOfHead() {
        reading("nothing", Bytes.of(), 1, 0);
        reading("one byte", Bytes.of(0), 1, 1);
        reading("another byte", Bytes.of(0, 97, 115, 110, 1, 0, 0, 0), 1, 3);
        reading("a short head", Bytes.of(0, 97, 115, 109, 1, 0, 0), 1, 7);
        reading("a section 0", Bytes.module(Bytes.section(0, Bytes.of())), 1, 8);
        reading("a section 6", Bytes.module(Bytes.section(6, Bytes.of(0))), 1, 8);
        reading("a section 8", Bytes.module(Bytes.section(8, Bytes.of(0))), 1, 8);
        reading("a section 11", Bytes.module(Bytes.section(11, Bytes.of(0))), 1, 8);
        reading("a section alone", Bytes.module(Bytes.of(1)), 1, 9);
        reading("two of types", Bytes.module(Bytes.section(1, Bytes.of(0)), Bytes.section(1, Bytes.of(0))), 1, 11);
        reading("out of order", Bytes.module(Bytes.section(3, Bytes.of(0)), Bytes.section(2, Bytes.of(0))), 1, 11);
        reading("a size too great", Bytes.module(Bytes.of(1, 2, 0)), 1, 11);
        reading("a size too small", Bytes.module(Bytes.of(1, 0, 0)), 1, 11);
        reading("a size of a code too great", Bytes.module(Bytes.section(10, Bytes.of(1, 3, 0, 11))), 1, 14);
        reading("a size of a code too small", Bytes.module(Bytes.section(10, Bytes.of(1, 1, 0, 11))), 1, 14);
        reading("bytes end in a section", Bytes.module(Bytes.of(1, 4, 1, 96, 0)), 1, 13);
    }

    private static void faultsOfNumbers() {
        reading("a number of six bytes", Bytes.module(Bytes.of(1, 0x80, 0x80, 0x80, 0x80, 0x80, 0)), 1, 9);
        reading("a number beyond 32 bits", Bytes.module(Bytes.of(1, 0x80, 0x80, 0x80, 0x80, 0x10)), 1, 9);
        reading("a number that ends too early", Bytes.module(Bytes.of(1, 0x80, 0x80, 0x80, 0x80)), 1, 13);
        int[] begin = Bytes.module(TYPES, Bytes.section(3, Bytes.of(1, 4)));
        int at = begin.length + 6;
        reading("a word of six bytes", Bytes.join(begin, Bytes.of(10, 20, 1, 18, 0, 65, 0x80, 0x80, 0x80, 0x80, 0x80,
            0)), 1, at);
        reading("a word beyond 32 bits", Bytes.join(begin, Bytes.of(10, 20, 1, 18, 0, 65, 0x80, 0x80, 0x80, 0x80, 8)),
            1, at);
        reading("a word below 32 bits", Bytes.join(begin, Bytes.of(10, 20, 1, 18, 0, 65, 0x80, 0x80, 0x80, 0x80,
            0x77)), 1, at);
    }

    private static void faultsOfSections() {
        reading("a type without 96", Bytes.module(Bytes.section(1, Bytes.of(1, 95, 0, 0))), 1, 11);
        reading("a parameter that is no 127", Bytes.module(Bytes.section(1, Bytes.of(1, 96, 1, 126, 0))), 1, 13);
        reading("two values", Bytes.module(Bytes.section(1, Bytes.of(1, 96, 0, 2, 127, 127))), 1, 13);
        reading("two values in two bytes", Bytes.module(Bytes.section(1, Bytes.of(1, 96, 0, 0x82, 0, 127, 127))), 1, 13);
        reading("a value that is no 127", Bytes.module(Bytes.section(1, Bytes.of(1, 96, 0, 1, 126))), 1, 14);
        reading("an import that is no function", Bytes.module(Bytes.section(2, Bytes.of(1, 1, 104, 3, 100, 117, 112, 1,
            0))), 1, 17);
        reading("two tables", Bytes.module(Bytes.section(4, Bytes.of(2, 112, 0, 1))), 1, 10);
        reading("no table in the row", Bytes.module(Bytes.section(4, Bytes.of(0))), 1, 10);
        reading("a table of others", Bytes.module(Bytes.section(4, Bytes.of(1, 111, 0, 1))), 1, 11);
        reading("a table with at most", Bytes.module(Bytes.section(4, Bytes.of(1, 112, 1, 1))), 1, 12);
        reading("two memories", Bytes.module(Bytes.section(5, Bytes.of(2, 1, 1, 1))), 1, 10);
        reading("a memory without at most", Bytes.module(Bytes.section(5, Bytes.of(1, 0, 1))), 1, 11);
        reading("an export that is no function", Bytes.module(Bytes.section(7, Bytes.of(1, 1, 97, 2, 0))), 1, 13);
        reading("an element of another sort", Bytes.module(Bytes.section(9, Bytes.of(1, 1, 65, 0, 11, 0))), 1, 11);
        reading("an element without const", Bytes.module(Bytes.section(9, Bytes.of(1, 0, 35, 0, 11, 0))), 1, 12);
        reading("an element without end", Bytes.module(Bytes.section(9, Bytes.of(1, 0, 65, 0, 12, 0))), 1, 14);
        reading("locals that are no 127", Bytes.module(Bytes.section(10, Bytes.of(1, 4, 1, 1, 126, 11))), 1, 14);
        reading("no instruction", Bytes.module(Bytes.section(10, Bytes.of(1, 3, 0, 6, 11))), 1, 13);
        reading("a block of another type", Bytes.module(Bytes.section(10, Bytes.of(1, 5, 0, 2, 0, 11, 11))), 1, 14);
        reading("load without 2", Bytes.module(Bytes.section(10, Bytes.of(1, 5, 0, 40, 1, 0, 11))), 1, 14);
        reading("size without 0", Bytes.module(Bytes.section(10, Bytes.of(1, 4, 0, 63, 1, 11))), 1, 14);
        reading("call_indirect without 0", Bytes.module(Bytes.section(10, Bytes.of(1, 5, 0, 17, 0, 1, 11))), 1, 15);
        for (int code = 0; code < 256; code++) {
            boolean known = " 0 1 2 3 4 5 11 12 13 15 16 17 26 27 32 33 34 40 54 63 64 65 69 70 71 72 73 74 76 78 106 107"
                .concat(" 108 109 111 113 114 115 116 117 118 ").contains(" " + code + " ");
            Wasmhall hall = new Wasmhall();
            Kit.putBytes(hall, Bytes.module(Bytes.section(10, Bytes.of(1, 3, 0, code, 11))));
            hall.read();
            KIT.due("byte " + code + " as an instruction", hall.fault(true) == 1 && hall.fault(false) == 13, !known);
        }
    }

    private static void tooMany() {
        good("60 parameters", Bytes.module(Bytes.section(1, Bytes.row(Bytes.type(60, 1)))));
        reading("61 parameters", Bytes.module(Bytes.section(1, Bytes.row(Bytes.type(61, 1)))), 1, 12);
        good("80 types", Bytes.module(Bytes.section(1, Bytes.join(Bytes.n(80), Bytes.repeat(80, 96, 0, 0)))));
        reading("81 types", Bytes.module(Bytes.section(1, Bytes.join(Bytes.n(81), Bytes.repeat(81, 96, 0, 0)))), 1, 11);
        int[] dup = Bytes.imported("dup", 0);
        good("8 imports", Bytes.module(TYPES, Bytes.section(2, Bytes.join(Bytes.n(8), Bytes.repeat(8, dup)))));
        reading("9 imports", Bytes.module(TYPES, Bytes.section(2, Bytes.join(Bytes.n(9), Bytes.repeat(9, dup)))), 1,
            8 + TYPES.length + 2);
        int[] two = Bytes.section(2, Bytes.row(dup, dup));
        int[] codes = Bytes.section(10, Bytes.join(Bytes.n(248), Bytes.repeat(248, 2, 0, 11)));
        good("250 functions", Bytes.module(TYPES, two, Bytes.section(3, Bytes.join(Bytes.n(248), Bytes.repeat(248, 4))),
            codes));
        reading("251 functions", Bytes.module(TYPES, two, Bytes.section(3, Bytes.join(Bytes.n(249), Bytes.repeat(249,
            4)))), 1, 8 + TYPES.length + two.length + 3);
        good("120 entries", Bytes.module(Bytes.table(120)));
        reading("121 entries", Bytes.module(Bytes.table(121)), 1, 13);
        good("16 pages", Bytes.module(Bytes.memory(16, 16)));
        reading("17 pages", Bytes.module(Bytes.memory(1, 17)), 1, 13);
        reading("17 pages at least", Bytes.module(Bytes.memory(17, 16)), 2, 5);
        reading("4294967295 pages at least", Bytes.module(Bytes.section(5, Bytes.of(1, 1, 255, 255, 255, 255, 15, 16))),
            2, 5);
        int[][] exports = new int[20][];
        for (int i = 0; i < 20; i++) {
            exports[i] = Bytes.exported("e" + i, 0);
        }
        good("20 exports", Bytes.module(TYPES, Bytes.section(2, Bytes.row(dup)), Bytes.section(7, Bytes.row(exports))));
        reading("21 exports", Bytes.module(Bytes.section(7, Bytes.of(21))), 1, 10);
        good("a name of 8 bytes", Bytes.module(TYPES, Bytes.section(2, Bytes.row(dup)),
            Bytes.section(7, Bytes.row(Bytes.exported("abcdefgh", 0)))));
        reading("a name of 9 bytes", Bytes.module(Bytes.section(7, Bytes.row(Bytes.exported("abcdefghi", 0)))), 1, 11);
        good("10 elements", Bytes.module(Bytes.section(9, Bytes.join(Bytes.n(10), Bytes.repeat(10,
            Bytes.element(0))))));
        reading("11 elements", Bytes.module(Bytes.section(9, Bytes.join(Bytes.n(11), Bytes.repeat(11,
            Bytes.element(0))))), 1, 10);
        int[] sixty = Bytes.element(0, new int[60]);
        int[] imports = Bytes.section(2, Bytes.row(dup));
        good("120 functions in elements", Bytes.module(TYPES, imports, Bytes.table(60),
            Bytes.section(9, Bytes.row(sixty, sixty))));
        reading("121 functions in elements", Bytes.module(TYPES, imports, Bytes.table(60),
            Bytes.section(9, Bytes.row(sixty, sixty, Bytes.element(0, 0)))), 1,
            8 + TYPES.length + imports.length + 6 + 4 + 2 * sixty.length + 4);
        int[] begin = Bytes.module(TYPES, Bytes.section(3, Bytes.of(1, 4)));
        good("500 locals", Bytes.join(begin, Bytes.section(10, Bytes.row(Bytes.code(500)))));
        reading("501 locals", Bytes.join(begin, Bytes.section(10, Bytes.row(Bytes.code(501)))), 1, begin.length + 5);
        reading("501 locals in two", Bytes.join(begin, Bytes.section(10, Bytes.row(Bytes.sized(Bytes.of(2, 0xf3, 3, 127,
            2, 127, 11))))), 1, begin.length + 8);
    }

    private static void tooManyInstructions() {
        int[] begin = Bytes.module(TYPES, Bytes.section(3, Bytes.of(1, 4)));
        good("6000 instructions", Bytes.join(begin, Bytes.section(10, Bytes.row(Bytes.code(0, Bytes.repeat(5999, 1))))));
        reading("6001 instructions", Bytes.join(begin, Bytes.section(10, Bytes.row(Bytes.code(0, Bytes.repeat(6000,
            1))))), 1, begin.length + 3 + 1 + 2 + 1 + 6000);
        int[] deep = Bytes.join(Bytes.repeat(10, 2, 64, 3, 64, 65, 0, 4, 64), Bytes.repeat(30, 11));
        good("30 blocks", Bytes.join(begin, Bytes.section(10, Bytes.row(Bytes.code(0, deep)))));
        reading("31 blocks", Bytes.join(begin, Bytes.section(10, Bytes.row(Bytes.code(0, Bytes.of(2, 64), deep,
            Bytes.of(11))))), 1, begin.length + 5 + 80);
        good("31 blocks one behind the other", Bytes.join(begin, Bytes.section(10, Bytes.row(Bytes.code(0,
            Bytes.repeat(31, 2, 64, 11))))));
    }

    private static void faultsOfSense() {
        int[] dup = Bytes.section(2, Bytes.row(Bytes.imported("dup", 0)));
        good("dup", Bytes.module(TYPES, dup));
        for (String name : new String[] {"link", "pair", "drop", "room"}) {
            int type = name.equals("drop") ? 1 : name.equals("room") ? 0 : 2;
            good(name, Bytes.module(TYPES, Bytes.section(2, Bytes.row(Bytes.imported(name, type)))));
            reading(name + " of another type", Bytes.module(TYPES, Bytes.section(2, Bytes.row(Bytes.imported(name,
                type == 0 ? 1 : 0)))), 2, 2);
        }
        reading("an import of another name", Bytes.module(TYPES, Bytes.section(2, Bytes.row(Bytes.imported("dupp", 0)))),
            2, 2);
        reading("an import of another house", Bytes.module(TYPES, Bytes.section(2, Bytes.row(Bytes.join(Bytes.name("g"),
            Bytes.name("dup"), Bytes.of(0, 0))))), 2, 2);
        reading("an import of no type", Bytes.module(TYPES, Bytes.section(2, Bytes.row(Bytes.imported("dup", 5)))), 2, 2);
        reading("a function of no type", Bytes.module(TYPES, Bytes.section(3, Bytes.of(1, 5))), 2, 3);
        reading("a function of the type 4294967295", Bytes.module(TYPES, Bytes.section(3, Bytes.of(1, 255, 255, 255, 255,
            15))), 2, 3);
        reading("at least above at most", Bytes.module(Bytes.memory(2, 1)), 2, 5);
        reading("an export of no function", Bytes.module(TYPES, dup, Bytes.section(7, Bytes.row(Bytes.exported("a", 1)))),
            2, 7);
        reading("two exports of a name", Bytes.module(TYPES, dup, Bytes.section(7, Bytes.row(Bytes.exported("a", 0),
            Bytes.exported("a", 0)))), 2, 7);
        good("names that a 0 tells apart", Bytes.module(TYPES, dup, Bytes.section(7, Bytes.row(Bytes.exported("a", 0),
            Bytes.exported("\0a", 0), Bytes.exported("", 0), Bytes.exported("\0", 0)))));
        good("a row at the end of the table", Bytes.module(Bytes.table(3), Bytes.section(9, Bytes.row(
            Bytes.element(3)))));
        reading("a row behind the table", Bytes.module(Bytes.table(3), Bytes.section(9, Bytes.row(Bytes.element(4)))), 2,
            9);
        reading("a row ahead of the table", Bytes.module(Bytes.table(3), Bytes.section(9, Bytes.row(
            Bytes.element(-1)))), 2, 9);
        reading("a row beyond the table", Bytes.module(TYPES, dup, Bytes.table(3), Bytes.section(9, Bytes.row(
            Bytes.element(2, 0, 0)))), 2, 9);
        reading("a row without a table", Bytes.module(TYPES, dup, Bytes.section(9, Bytes.row(Bytes.element(0, 0)))), 2,
            9);
        good("no row without a table", Bytes.module(Bytes.section(9, Bytes.row(Bytes.element(0)))));
        reading("no row, but at 1, without a table", Bytes.module(Bytes.section(9, Bytes.row(Bytes.element(1)))), 2, 9);
        reading("an element of no function", Bytes.module(TYPES, dup, Bytes.table(3), Bytes.section(9, Bytes.row(
            Bytes.element(0, 1)))), 2, 9);
        reading("no code", Bytes.module(TYPES, Bytes.section(3, Bytes.of(1, 4))), 2, 10);
        reading("a code too many", Bytes.module(Bytes.section(10, Bytes.row(Bytes.code(0)))), 2, 10);
        reading("the first section counts", Bytes.module(TYPES, Bytes.section(3, Bytes.of(1, 5)), Bytes.memory(2, 1)), 2,
            3);
        reading("kind 1 comes ahead of kind 2", Bytes.module(TYPES, Bytes.section(3, Bytes.of(1, 5)), Bytes.of(99)), 1,
            8 + TYPES.length + 4);
    }

    /** A function of one parameter, one local and a value, 1 for dup being imported, in a module with all else. */
    private static int[] withBody(int[] body) {
        return Bytes.module(TYPES, Bytes.section(2, Bytes.row(Bytes.imported("dup", 0))),
            Bytes.section(3, Bytes.of(2, 4, 0)), Bytes.table(1), Bytes.memory(1, 2),
            Bytes.section(10, Bytes.row(Bytes.code(0), Bytes.code(1, body))));
    }

    private static void invalid(String words, int place, int... body) {
        reading(words, withBody(body), 3, 20000 + place);
    }

    private static void valid(String words, int... body) {
        good(words, withBody(body));
    }

    private static void invalidOnes() {
        invalid("nothing on the stack", 0);
        invalid("two words at the end", 2, 65, 1, 65, 1);
        invalid("drop of none", 0, 26);
        invalid("add of one", 1, 65, 1, 106);
        invalid("select of two", 2, 65, 1, 65, 1, 27);
        invalid("a local that is not there", 0, 32, 2);
        invalid("a function that is not there", 1, 65, 1, 16, 3);
        invalid("a type that is not there", 1, 65, 0, 17, 5, 0);
        invalid("call_indirect without an entry", 0, 17, 0, 0);
        invalid("a block out that is not there", 1, 65, 1, 12, 1);
        invalid("br without a value", 0, 12, 0);
        invalid("br_if without a value", 1, 65, 1, 13, 0);
        invalid("return without a value", 0, 15);
        invalid("a word left in a block", 2, 2, 64, 65, 1, 11, 65, 1);
        invalid("no value in a block", 1, 2, 127, 11);
        invalid("words of the outer block", 2, 65, 1, 2, 64, 26, 11);
        invalid("if without a test", 0, 4, 64, 11);
        invalid("an if with a value and no else", 3, 65, 1, 4, 127, 65, 1, 11);
        invalid("else in no if", 0, 5);
        invalid("else in a block", 1, 2, 64, 5, 11);
        invalid("a second else", 3, 65, 1, 4, 64, 5, 5, 11);
        invalid("a word ahead of else", 3, 65, 1, 4, 64, 65, 1, 5, 11);
        invalid("no value behind else", 4, 65, 1, 4, 127, 65, 1, 5, 11);
        invalid("too much though it is dead", 3, 0, 65, 1, 65, 1);
        invalid("not dead behind the else", 4, 65, 1, 4, 127, 0, 5, 11);
        invalid("not dead behind the block", 3, 2, 64, 0, 11);
        invalid("a value dropped behind a loop", 5, 3, 127, 65, 1, 12, 0, 11, 26);
        invalid("blocks in dead code are not dead", 2, 0, 4, 127, 106, 5, 11);
        int[] bare = Bytes.module(TYPES, Bytes.section(3, Bytes.of(1, 4)));
        reading("load without a memory", Bytes.join(bare, Bytes.section(10, Bytes.row(Bytes.code(0, Bytes.of(65, 0, 40, 2,
            0, 26))))), 3, 1);
        reading("store without a memory", Bytes.join(bare, Bytes.section(10, Bytes.row(Bytes.code(0, Bytes.of(65, 0, 65,
            0, 54, 2, 0))))), 3, 2);
        reading("size without a memory", Bytes.join(bare, Bytes.section(10, Bytes.row(Bytes.code(0, Bytes.of(63, 0,
            26))))), 3, 0);
        reading("grow without a memory", Bytes.join(bare, Bytes.section(10, Bytes.row(Bytes.code(0, Bytes.of(65, 0, 64, 0,
            26))))), 3, 1);
        reading("call_indirect without a table", Bytes.join(bare, Bytes.section(10, Bytes.row(Bytes.code(0, Bytes.of(65,
            0, 17, 4, 0))))), 3, 1);
        reading("a value of a function without one", Bytes.join(bare, Bytes.section(10, Bytes.row(Bytes.code(0,
            Bytes.of(65, 0))))), 3, 1);
    }

    private static void validOnes() {
        valid("get", 32, 0);
        valid("tee and set", 65, 1, 34, 1, 33, 0, 32, 1);
        valid("unreachable alone", 0);
        valid("dead words", 0, 106, 27, 26, 4, 127, 65, 1, 5, 65, 1, 11);
        valid("a loop takes no value along", 3, 127, 12, 0, 11);
        valid("what is put in dead code", 0, 65, 1);
        valid("br to the function", 65, 1, 12, 0);
        valid("br_if with a value", 65, 1, 65, 1, 13, 0);
        valid("return", 65, 1, 65, 2, 65, 3, 15);
        valid("a loop", 3, 64, 65, 0, 13, 0, 11, 65, 1);
        valid("a loop with a value", 3, 127, 65, 1, 11);
        valid("br takes what lies above", 2, 64, 65, 1, 65, 2, 12, 0, 11, 65, 1);
        valid("if without else", 65, 1, 4, 64, 11, 65, 1);
        valid("if with a value", 65, 1, 4, 127, 65, 1, 5, 65, 2, 11);
        valid("call", 65, 1, 16, 0);
        valid("call_indirect", 65, 5, 65, 0, 17, 0, 0);
        valid("memory", 65, 0, 65, 1, 54, 2, 0, 63, 0, 64, 0, 40, 2, 255, 255, 255, 255, 15);
        valid("br_if in dead code", 0, 13, 0);
        valid("br out of blocks", 2, 127, 2, 64, 65, 1, 12, 1, 11, 65, 2, 11);
    }

    private static void different(int[] one, int[] other) {
        Wasmhall hall = new Wasmhall();
        Kit.putBytes(hall, one);
        hall.read();
        hall.cutBytes(0);
        Kit.putBytes(hall, other);
        KIT.due("read() of two", hall.read(), 1);
        KIT.due("same(0, 1)", hall.same(0, 1), false);
        KIT.due("same(1, 1)", hall.same(1, 1), true);
    }

    private static int[] withNumbers(int... n) {
        return Bytes.module(TYPES, Bytes.section(2, Bytes.row(Bytes.imported("dup", 0))),
            Bytes.section(3, Bytes.of(1, n[0])), Bytes.table(n[1]), Bytes.memory(n[2], n[3]),
            Bytes.section(7, Bytes.row(Bytes.exported("a", n[4]))), Bytes.section(9, Bytes.row(Bytes.element(n[5], n[6]))),
            Bytes.section(10, Bytes.row(Bytes.code(n[7], Bytes.of(65, n[8])))));
    }

    private static void sameness() {
        int[] base = {0, 3, 1, 2, 0, 0, 0, 1, 5};
        int[] change = {3, 4, 2, 3, 1, 1, 1, 2, 6};
        for (int i = 0; i < base.length; i++) {
            int[] other = base.clone();
            other[i] = change[i];
            different(withNumbers(base), withNumbers(other));
        }
        different(Bytes.head(), Bytes.module(Bytes.table(0)));
        different(Bytes.head(), Bytes.module(Bytes.memory(0, 0)));
        different(Bytes.head(), TYPES.length == 0 ? null : Bytes.module(TYPES));
        different(Bytes.module(TYPES, Bytes.section(2, Bytes.row(Bytes.imported("link", 2)))),
            Bytes.module(TYPES, Bytes.section(2, Bytes.row(Bytes.imported("pair", 2)))));
        Wasmhall hall = new Wasmhall();
        Kit.putBytes(hall, Bytes.head());
        hall.read();
        KIT.throwing("same(0, 1)", IndexOutOfBoundsException.class, () -> hall.same(0, 1));
        KIT.throwing("same(-1, 0)", IndexOutOfBoundsException.class, () -> hall.same(-1, 0));
        hall.cutBytes(7);
        KIT.due("read() with a fault", hall.read(), Wasmhall.NONE);
        KIT.due("its kind", hall.fault(true), 1);
        hall.bytes(0, 1);
        KIT.due("read() without one", hall.read(), 1);
        KIT.due("no kind", hall.fault(true), 0);
        KIT.due("an empty memory", hall.moduleAt(1, 8), 0);
    }

    private static void clearing() {
        Wasmhall hall = new Wasmhall();
        Kit.putBytes(hall, withNumbers(0, 3, 1, 2, 1, 0, 0, 1, 5));
        for (int i = 0; i < 8; i++) {
            KIT.due("read()", hall.read(), i);
        }
        KIT.throwing("a ninth module", IllegalStateException.class, hall::read);
        hall.begin(0, 0, 1, 1, 1);
        KIT.due("clearModules()", hall.clearModules(), 8);
        KIT.throwing("the runs are dropped", IndexOutOfBoundsException.class, () -> hall.runAt(0, 0));
        KIT.throwing("the modules are dropped", IndexOutOfBoundsException.class, () -> hall.moduleAt(0, 0));
        KIT.due("clearModules() again", hall.clearModules(), 0);
        KIT.due("read() again", hall.read(), 0);
        KIT.due("begin() again", hall.begin(0, 0, 1, 1, 1), 0);
    }
}
