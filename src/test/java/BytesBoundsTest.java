/** The bounds that section 6 of the document names, and those of promises 19 to 27: on both sides, each on its own. */
public final class BytesBoundsTest {
    private static final Kit KIT = new Kit();
    /** Types 0 of dup and room, 1 of drop, 2 of link and pair, 3 of a value alone, 4 of nothing. */
    private static final int[] TYPES = Bytes.section(1, Bytes.row(Bytes.type(1, 1), Bytes.type(1, 0), Bytes.type(2, 1),
        Bytes.type(0, 1), Bytes.type(0, 0)));
    private static final int[] DUP = Bytes.section(2, Bytes.row(Bytes.imported("dup", 0)));
    private static final int[] ONE = Bytes.section(3, Bytes.of(1, 4));
    /** Types and one own function of nothing, which lacks its code. */
    private static final int[] BEGIN = Bytes.module(TYPES, ONE);

    public static void main(String[] args) {
        bytesOneToEight();
        bytesUpTo20000();
        setByteOfAByte();
        cutBytesUpToAll();
        wordsAsWritten();
        numbersAsWritten();
        numbersAsRead();
        wordsAsRead();
        headByByte();
        endsTooEarly();
        sectionsThereAre();
        sectionsInOrder();
        sectionsThatLack();
        sizesOfSections();
        sizesOfCodes();
        readWithoutRegardToSize();
        bytesThatMustBe();
        parametersUpTo60();
        valuesUpToOne();
        typesUpTo80();
        importsUpTo8();
        functionsUpTo250();
        entriesUpTo120();
        pagesUpTo16();
        exportsUpTo20();
        namesUpTo8();
        elementsUpTo10();
        functionsOfElementsUpTo120();
        localsUpTo500();
        instructionsUpTo6000();
        blocksUpTo30();
        importsOfTheHouse();
        typesThereAre();
        functionsThereAre();
        namesTwice();
        atLeastAboveAtMost();
        rowsWithinTheTable();
        codesAsManyAsFunctions();
        kindsInTheirOrder();
        placesOfKind3();
        readKeepsTheBytes();
        faultOfTheLatest();
        eightModules();
        writtenAsItIs();
        eachInstructionWritten();
        sameInAll();
        clearModules();
        KIT.end();
    }

    private static void reading(String what, int kind, int place, int[]... parts) {
        int[] bytes = Bytes.join(parts);
        Wasmhall hall = Kit.read(bytes);
        KIT.due("fault of " + what, hall.fault(true) + " " + hall.fault(false), kind + " " + place);
        KIT.due("BYTES of " + what, hall.cutBytes(0), bytes.length);
        KIT.due("modules of " + what, hall.clearModules(), kind == 0 ? 1 : 0);
    }

    private static void good(String what, int[]... parts) {
        reading(what, 0, -1, parts);
    }

    /** Kind 1 at a place of the bytes behind the first part. */
    private static void bad(String what, int place, int[] first, int[]... parts) {
        reading(what, 1, first.length + place, first, Bytes.join(parts));
    }

    private static int[] o(int... bytes) {
        return bytes;
    }

    /** "many: 1 to 8", "the lowest ones of a number, the highest of these first" */
    private static void bytesOneToEight() {
        long eight = 0x0102030405060708L;
        String all = "1 2 3 4 5 6 7 8";
        for (int many = 1; many <= 8; many++) {
            Wasmhall hall = new Wasmhall();
            KIT.due("bytes(eight, " + many + ")", hall.bytes(eight, many), many);
            KIT.due("the BYTES", Kit.bytes(hall), all.substring(2 * (8 - many)));
        }
        Wasmhall hall = new Wasmhall();
        hall.bytes(-1, 3);
        hall.bytes(0, 2);
        hall.bytes(Long.MIN_VALUE, 8);
        KIT.due("zeros are bytes here", Kit.bytes(hall), "255 255 255 0 0 128 0 0 0 0 0 0 0");
        for (int many : new int[] {0, 9, -1, Integer.MIN_VALUE, Integer.MAX_VALUE}) {
            KIT.refused(hall, "bytes(1, " + many + ")", IllegalArgumentException.class, () -> hall.bytes(1, many));
        }
        KIT.due("byteAt(-1)", hall.byteAt(-1), -1);
        KIT.due("byteAt(0)", hall.byteAt(0), 255);
        KIT.due("byteAt(12)", hall.byteAt(12), 0);
        KIT.due("byteAt(13)", hall.byteAt(13), -1);
    }

    private static Wasmhall full(int many) {
        Wasmhall hall = new Wasmhall();
        for (int i = 0; i < many / 8; i++) {
            hall.bytes(i, 8);
        }
        if (many % 8 > 0) {
            hall.bytes(many, many % 8);
        }
        return hall;
    }

    /** "if there would be more than 20000" */
    private static void bytesUpTo20000() {
        Wasmhall hall = full(19996);
        KIT.refused(hall, "5 bytes to 20001", IllegalStateException.class, () -> hall.bytes(-1, 5));
        KIT.due("4 bytes to 20000", hall.bytes(-1, 4), 20000);
        KIT.refused(hall, "one more", IllegalStateException.class, () -> hall.bytes(0, 1));
        KIT.refused(hall, "many comes first", IllegalArgumentException.class, () -> hall.bytes(0, 9));
        KIT.due("the last one", hall.byteAt(19999), 255);
        KIT.due("none behind", hall.byteAt(20000), -1);
        // A module that has 20000 bytes as it is written, and one that has 20001.
        for (int more = 0; more < 2; more++) {
            Wasmhall writer = Kit.read(ofLength(20000 + more));
            KIT.due("its fault", writer.fault(true), 0);
            KIT.due("its bytes as written", writer.moduleAt(0, 5), 20000 + more);
            if (more == 0) {
                writer.cutBytes(5);
                KIT.due("write(0)", writer.write(0), 20000);
                KIT.due("read() of it", writer.read(), 1);
                KIT.due("the same", writer.same(0, 1), true);
            } else {
                KIT.refused(writer, "write(0)", IllegalStateException.class, () -> writer.write(0));
            }
        }
    }

    /** The bytes of a module that has so many when it is written; sections 2, 7 and 9 lack here, 9 bytes less. */
    private static int[] ofLength(int written) {
        int[] codes = Bytes.repeat(3, Bytes.code(0, Bytes.repeat(5990, 1)));
        int rest = written - 9 - 8 - 6 - 7 - 5 - codes.length - 4;
        return Bytes.join(Bytes.module(Bytes.section(1, Bytes.row(Bytes.type(0, 0))), Bytes.section(3, o(4, 0, 0, 0, 0))),
            o(10), Bytes.sized(Bytes.join(o(4), codes, Bytes.code(0, Bytes.repeat(rest, 1)))));
    }

    /** "index: 0 for the first one; value: 0 to 255" */
    private static void setByteOfAByte() {
        Wasmhall hall = full(3);
        KIT.due("the BYTES", Kit.bytes(hall), "0 0 3");
        KIT.due("setByte(0, 255)", hall.setByte(0, 255), 0);
        KIT.due("setByte(2, 0)", hall.setByte(2, 0), 3);
        KIT.due("setByte(0, 254)", hall.setByte(0, 254), 255);
        KIT.due("the BYTES then", Kit.bytes(hall), "254 0 0");
        KIT.refused(hall, "setByte(-1, 0)", IndexOutOfBoundsException.class, () -> hall.setByte(-1, 0));
        KIT.refused(hall, "setByte(3, 0)", IndexOutOfBoundsException.class, () -> hall.setByte(3, 0));
        KIT.refused(hall, "setByte(3, 256)", IndexOutOfBoundsException.class, () -> hall.setByte(3, 256));
        KIT.refused(hall, "setByte(0, -1)", IllegalArgumentException.class, () -> hall.setByte(0, -1));
        KIT.refused(hall, "setByte(0, 256)", IllegalArgumentException.class, () -> hall.setByte(0, 256));
        Wasmhall empty = new Wasmhall();
        KIT.refused(empty, "setByte(0, 0) of none", IndexOutOfBoundsException.class, () -> empty.setByte(0, 0));
    }

    /** "many: 0 to how many there are" */
    private static void cutBytesUpToAll() {
        Wasmhall hall = full(5);
        KIT.refused(hall, "cutBytes(-1)", IllegalArgumentException.class, () -> hall.cutBytes(-1));
        KIT.refused(hall, "cutBytes(6)", IllegalArgumentException.class, () -> hall.cutBytes(6));
        KIT.due("cutBytes(5)", hall.cutBytes(5), 5);
        KIT.due("cutBytes(4)", hall.cutBytes(4), 5);
        KIT.due("byteAt(3)", hall.byteAt(3), 0);
        KIT.due("byteAt(4)", hall.byteAt(4), -1);
        KIT.due("cutBytes(0)", hall.cutBytes(0), 4);
        KIT.due("cutBytes(0) of none", hall.cutBytes(0), 0);
        KIT.refused(hall, "cutBytes(1) of none", IllegalArgumentException.class, () -> hall.cutBytes(1));
        KIT.due("bytes() behind it", hall.bytes(7, 1), 1);
    }

    /** The bytes of the code of a module's only function, as it is written. */
    private static String written(int[] body) {
        Wasmhall hall = Kit.read(Bytes.join(Bytes.module(TYPES, ONE, Bytes.memory(1, 1), Bytes.section(10, Bytes.row(
            Bytes.code(0, body))))));
        KIT.due("fault(false)", hall.fault(false), -1);
        hall.write(0);
        int[] behind = Bytes.sized(Bytes.of());
        String all = Kit.bytes(hall);
        return all.substring(all.lastIndexOf(" 9 1 0 10 ") + 10 + behind.length - 1);
    }

    private static String text(int... bytes) {
        StringBuilder text = new StringBuilder();
        for (int b : bytes) {
            text.append(text.length() == 0 ? "" : " ").append(b);
        }
        return text.toString();
    }

    /** Section size, one code, its size, no locals; then the instructions, and end. */
    private static String codeOf(int... instructions) {
        int inner = instructions.length + 2;
        return text(Bytes.join(o(inner + 2, 1, inner, 0), instructions, o(11)));
    }

    /** "One with a sign (s, of const): likewise, the last group having the sign as its bit 6": as few as needed. */
    private static void wordsAsWritten() {
        int[] words = {0, 1, 63, 64, 8191, 8192, 1048575, 1048576, 134217727, 134217728, Integer.MAX_VALUE, -1, -64, -65, -8192,
            -8193, -1048576, -1048577, -134217728, -134217729, Integer.MIN_VALUE};
        int[][] due = {{0}, {1}, {63}, {192, 0}, {255, 63}, {128, 192, 0}, {255, 255, 63}, {128, 128, 192, 0},
            {255, 255, 255, 63}, {128, 128, 128, 192, 0}, {255, 255, 255, 255, 7}, {127}, {64}, {191, 127}, {128, 64},
            {255, 191, 127}, {128, 128, 64}, {255, 255, 191, 127}, {128, 128, 128, 64}, {255, 255, 255, 191, 127},
            {128, 128, 128, 128, 120}};
        for (int i = 0; i < words.length; i++) {
            int[] five = new int[5];
            for (int k = 0; k < 5; k++) {
                five[k] = words[i] >> 7 * k & 127 | (k < 4 ? 128 : 0);
            }
            KIT.due("const " + words[i], written(Bytes.join(o(65), five, o(26))), codeOf(Bytes.join(o(65), due[i], o(26))));
        }
    }

    /** "groups of 7 bits, the lowest first ...; as few as needed as it is written" */
    private static void numbersAsWritten() {
        long[] offsets = {0, 1, 127, 128, 16383, 16384, 2097151, 2097152, 268435455, 268435456, 2147483647L, 2147483648L,
            4294967295L};
        int[][] due = {{0}, {1}, {127}, {128, 1}, {255, 127}, {128, 128, 1}, {255, 255, 127}, {128, 128, 128, 1},
            {255, 255, 255, 127}, {128, 128, 128, 128, 1}, {255, 255, 255, 255, 7}, {128, 128, 128, 128, 8},
            {255, 255, 255, 255, 15}};
        for (int i = 0; i < offsets.length; i++) {
            int[] five = new int[5];
            for (int k = 0; k < 5; k++) {
                five[k] = (int) (offsets[i] >> 7 * k & 127) | (k < 4 ? 128 : 0);
            }
            KIT.due("load " + offsets[i], written(Bytes.join(o(65, 0, 40, 2), five, o(26))),
                codeOf(Bytes.join(o(65, 0, 40, 2), due[i], o(26))));
        }
    }

    /** "at most 5 as it is read (below 2 to the power of 32)", "too long or too great (at its first byte)" */
    private static void numbersAsRead() {
        int[] head = Bytes.head();
        int[][] zeros = {{0}, {128, 0}, {128, 128, 0}, {128, 128, 128, 0}, {128, 128, 128, 128, 0}};
        for (int[] zero : zeros) {
            good("0 types in " + zero.length + " bytes", head, o(1, zero.length), zero);
            good("a size in " + (zero.length + 1) + " bytes", head, o(1), withMore(zero.length), o(0));
        }
        bad("0 types in 6 bytes", 2, head, o(1, 6, 128, 128, 128, 128, 128, 0));
        bad("a size in 6 bytes", 1, head, o(1, 129, 128, 128, 128, 128, 0, 0));
        // 5 bytes: the last one may have 4 bits.
        int[] load = Bytes.join(BEGIN, o(10, 40, 1, 38, 0, 65, 0, 40, 2));
        bad("4294967296", 0, load, o(128, 128, 128, 128, 16));
        bad("a fifth byte of 127", 0, load, o(128, 128, 128, 128, 127));
        bad("a fifth byte of 255", 0, load, o(128, 128, 128, 128, 255));
        bad("a fifth byte of 128", 0, load, o(128, 128, 128, 128, 128));
        bad("bytes end in a number", 4, load, o(128, 128, 128, 128));
        bad("bytes end ahead of a number", 0, load);
        bad("15 is not too great", 5, load, o(255, 255, 255, 255, 15, 99));
    }

    /** The number 1 in so many bytes. */
    private static int[] withMore(int bytes) {
        int[] number = new int[bytes];
        for (int i = 0; i < bytes; i++) {
            number[i] = (i == 0 ? 1 : 0) | (i < bytes - 1 ? 128 : 0);
        }
        return number;
    }

    private static void wordsAsRead() {
        int[] word = Bytes.join(BEGIN, o(10, 40, 1, 38, 0, 65));
        // The fifth byte: 0 to 7, or 120 to 127.
        for (int last = 0; last < 256; last++) {
            boolean fits = last <= 7 || last >= 120 && last <= 127;
            bad("a fifth byte of " + last, fits ? 5 : 0, word, o(255, 128, 255, 128, last), o(99));
        }
        bad("a word of 6 bytes", 0, word, o(128, 128, 128, 128, 128, 0));
        bad("bytes end in a word", 3, word, o(255, 255, 255));
        int[][] ones = {{127}, {255, 127}, {255, 255, 127}, {255, 255, 255, 127}, {255, 255, 255, 255, 127}};
        for (int[] one : ones) {
            Wasmhall hall = Kit.read(Bytes.join(BEGIN, Bytes.section(10, Bytes.row(Bytes.code(0, o(65), one, o(26))))));
            KIT.due("-1 in " + one.length + " bytes", hall.opAt(0, 0, 0, 1), -1);
        }
        good("a place of an element", Bytes.module(Bytes.table(3), Bytes.section(9, o(1, 0, 65, 131, 0, 11, 0))));
    }

    /** "0 97 115 109 1 0 0 0": another byte than one that can be. */
    private static void headByByte() {
        int[] head = Bytes.head();
        for (int i = 0; i < 8; i++) {
            int[] other = head.clone();
            other[i] ^= 1;
            reading("a head with another byte " + i, 1, i, other);
        }
        good("a head", head);
    }

    /** "or the length if they end too early" */
    private static void endsTooEarly() {
        int[] all = Bytes.module(TYPES, DUP, ONE, Bytes.table(1), Bytes.memory(1, 2), Bytes.section(7, Bytes.row(
            Bytes.exported("ab", 1))), Bytes.section(9, Bytes.row(Bytes.element(0, 1))), Bytes.section(10, Bytes.row(
            Bytes.code(3, o(65, 200, 1, 26)))));
        good("all sections", all);
        // Behind a section nothing more must come, but what lacks then may be a fault of kind 2.
        String whole = " 8 " + (8 + TYPES.length) + " " + (8 + TYPES.length + DUP.length) + " ";
        for (int length = 0; length < all.length; length++) {
            int[] cut = java.util.Arrays.copyOf(all, length);
            if (!isWhole(all, length)) {
                reading("the first " + length + " bytes", 1, length, cut);
            } else {
                reading("the first " + length + " bytes", whole.contains(" " + length + " ") ? 0 : 2,
                    whole.contains(" " + length + " ") ? -1 : 10, cut);
            }
        }
    }

    /** Whether a section ends at a place, all sizes being of one byte. */
    private static boolean isWhole(int[] all, int length) {
        int at = 8;
        while (at < length) {
            at += 2 + all[at + 1];
        }
        return at == length;
    }

    /** "sections, each its number ...: 1 2 3 4 5 7 9 10" */
    private static void sectionsThereAre() {
        for (int number = 0; number < 256; number++) {
            boolean known = number >= 1 && number <= 5 || number == 7 || number == 9 || number == 10;
            int[] content = number == 4 ? o(1, 112, 0, 0) : number == 5 ? o(1, 1, 0, 0) : o(0);
            reading("a section " + number, known ? 0 : 1, known ? -1 : 8, Bytes.head(), Bytes.section(number, content));
        }
    }

    /** "in this order, each at most once", "a section out of its order" */
    private static void sectionsInOrder() {
        int[] numbers = {1, 2, 3, 4, 5, 7, 9, 10};
        int[][] sections = new int[8][];
        for (int i = 0; i < 8; i++) {
            sections[i] = Bytes.section(numbers[i], i == 3 ? o(1, 112, 0, 0) : i == 4 ? o(1, 1, 0, 0) : o(0));
        }
        for (int i = 0; i < 8; i++) {
            for (int k = 0; k < 8; k++) {
                int[] two = Bytes.module(sections[i], sections[k]);
                reading("sections " + numbers[i] + " and " + numbers[k], i < k ? 0 : 1, i < k ? -1 : 8 + sections[i].length, two);
            }
        }
        good("all of them", Bytes.module(sections));
    }

    /** "in what is read any may lack" */
    private static void sectionsThatLack() {
        int[][] all = {TYPES, DUP, Bytes.table(1), Bytes.memory(0, 0), Bytes.section(7, o(0)), Bytes.section(9, o(0)),
            Bytes.section(10, o(0))};
        for (int lacks = 0; lacks < all.length; lacks++) {
            int[][] rest = all.clone();
            rest[lacks] = o();
            reading("without " + lacks, lacks == 0 ? 2 : 0, lacks == 0 ? 2 : -1, Bytes.module(rest));
        }
        good("none at all", Bytes.head());
    }

    /** "a size that does not fit (at the first byte behind what the section ... has)" */
    private static void sizesOfSections() {
        for (int size = 0; size < 8; size++) {
            reading("types in a size of " + size, size == 4 ? 0 : 1, size == 4 ? -1 : 14, Bytes.head(), o(1, size, 1, 96, 0, 0));
            reading("types in a size of " + size + " with more behind", 1, 14, Bytes.head(),
                o(1, size, 1, 96, 0, 0, size == 4 ? 1 : 2));
        }
        bad("a size of 4294967295", 7, Bytes.head(), o(1, 255, 255, 255, 255, 15), o(0, 2));
    }

    /** "or the code" */
    private static void sizesOfCodes() {
        for (int size = 0; size < 8; size++) {
            reading("a code in a size of " + size, size == 3 ? 0 : 1, size == 3 ? -1 : BEGIN.length + 7, BEGIN,
                o(10, 5, 1, size, 0, 1, 11));
        }
        bad("a code and a section that do not fit", 7, BEGIN, o(10, 4, 1, 4, 0, 1, 11));
        bad("a section that does not fit behind its code", 7, BEGIN, o(10, 4, 1, 3, 0, 1, 11));
    }

    /** "What a section or code has is read without regard to its size." */
    private static void readWithoutRegardToSize() {
        bad("a fault behind the size", 5, Bytes.head(), o(1, 1, 1, 96, 0, 5));
        bad("a fault in a code behind its size", 6, BEGIN, o(10, 1, 1, 1, 0, 1, 99));
    }

    /** "another byte than one that can be" */
    private static void bytesThatMustBe() {
        int[] head = Bytes.head();
        int[][] parts = {{1, 6, 1, 96, 1, 127, 1, 127}, {2, 6, 1, 1, 104, 0, 0, 0}, {4, 4, 1, 112, 0, 5}, {5, 4, 1, 1, 0, 1},
            {7, 5, 1, 1, 97, 0, 0}, {9, 6, 1, 0, 65, 0, 11, 0}, {10, 10, 1, 8, 1, 2, 127, 2, 64, 11, 11, 0}};
        int[][] fixed = {{3, 5, 7}, {6}, {2, 3, 4}, {2, 3}, {5}, {3, 4, 6}, {6, 8}};
        for (int i = 0; i < parts.length; i++) {
            for (int at : fixed[i]) {
                for (int wrong : new int[] {parts[i][at] ^ 1, parts[i][at] ^ 128}) {
                    int[] other = parts[i].clone();
                    other[at] = wrong;
                    int[] bytes = Bytes.join(head, other);
                    Wasmhall hall = Kit.read(bytes);
                    KIT.due("kind of part " + i + " with " + wrong + " at " + at, hall.fault(true), 1);
                    KIT.due("place of part " + i + " with " + wrong + " at " + at, hall.fault(false), 8 + at);
                }
            }
        }
        bad("block 63", 6, BEGIN, o(10, 7, 1, 5, 0, 2, 63, 11, 11));
        bad("loop 0", 6, BEGIN, o(10, 7, 1, 5, 0, 3, 0, 11, 11));
        bad("if 126", 6, BEGIN, o(10, 7, 1, 5, 0, 4, 126, 11, 11));
        bad("load 1", 6, BEGIN, o(10, 7, 1, 5, 0, 40, 1, 0, 11));
        bad("store 3", 6, BEGIN, o(10, 7, 1, 5, 0, 54, 3, 0, 11));
        bad("size 1", 6, BEGIN, o(10, 6, 1, 4, 0, 63, 1, 11));
        bad("grow 128", 6, BEGIN, o(10, 6, 1, 4, 0, 64, 128, 11));
        bad("call_indirect with 1", 7, BEGIN, o(10, 7, 1, 5, 0, 17, 0, 1, 11));
    }

    /** "more than 60 parameters ..., each at the first byte of the number that tells how many" */
    private static void parametersUpTo60() {
        good("60 parameters", Bytes.module(Bytes.section(1, Bytes.row(Bytes.type(60, 1)))));
        bad("61 parameters", 4, Bytes.head(), Bytes.section(1, Bytes.row(Bytes.type(61, 1))));
        bad("61 parameters in two bytes", 4, Bytes.head(), o(1, 10, 1, 96, 189, 0));
        bad("128 parameters", 5, Bytes.head(), Bytes.section(1, Bytes.row(Bytes.type(128, 0))));
        Wasmhall hall = Kit.read(Bytes.module(Bytes.section(1, Bytes.row(Bytes.type(60, 0))), Bytes.section(3, o(1, 0)),
            Bytes.section(10, Bytes.row(Bytes.code(0, o(32, 59, 26))))));
        KIT.due("functionAt(0, 0, 1)", hall.functionAt(0, 0, 1), 60);
    }

    /** "a row of none or one 127" */
    private static void valuesUpToOne() {
        good("no value", Bytes.head(), o(1, 4, 1, 96, 0, 0));
        good("one value", Bytes.head(), o(1, 5, 1, 96, 0, 1, 127));
        bad("two values", 5, Bytes.head(), o(1, 6, 1, 96, 0, 2, 127, 127));
        bad("two values in two bytes", 5, Bytes.head(), o(1, 7, 1, 96, 0, 130, 0, 127, 127));
        bad("a value that is none", 6, Bytes.head(), o(1, 5, 1, 96, 0, 1, 64));
    }

    private static void typesUpTo80() {
        good("80 types", Bytes.module(Bytes.section(1, Bytes.join(Bytes.n(80), Bytes.repeat(80, 96, 0, 0)))));
        bad("81 types", 3, Bytes.head(), Bytes.section(1, Bytes.join(Bytes.n(81), Bytes.repeat(81, 96, 0, 0))));
        KIT.due("moduleAt(0, 0)", Kit.read(Bytes.module(Bytes.section(1, Bytes.join(Bytes.n(80), Bytes.repeat(80, 96, 0, 0)))))
            .moduleAt(0, 0), 80);
    }

    private static void importsUpTo8() {
        int[] dup = Bytes.imported("dup", 0);
        int[] begin = Bytes.module(TYPES);
        good("8 imports", begin, Bytes.section(2, Bytes.join(o(8), Bytes.repeat(8, dup))));
        bad("9 imports", 2, begin, Bytes.section(2, Bytes.join(o(9), Bytes.repeat(9, dup))));
    }

    /** "250 functions in all": imports count. */
    private static void functionsUpTo250() {
        int[] dup = Bytes.imported("dup", 0);
        for (int imports : new int[] {0, 1, 8}) {
            int own = 250 - imports;
            int[] begin = Bytes.module(TYPES, imports == 0 ? o() : Bytes.section(2, Bytes.join(o(imports), Bytes.repeat(imports,
                dup))));
            good("250 functions, " + imports + " imports", begin, Bytes.section(3, Bytes.join(Bytes.n(own), Bytes.repeat(own, 4))),
                Bytes.section(10, Bytes.join(Bytes.n(own), Bytes.repeat(own, 2, 0, 11))));
            bad("251 functions, " + imports + " imports", 3, begin, Bytes.section(3, Bytes.join(Bytes.n(own + 1),
                Bytes.repeat(own + 1, 4))));
        }
    }

    private static void entriesUpTo120() {
        good("120 entries", Bytes.module(Bytes.table(120)));
        bad("121 entries", 5, Bytes.head(), Bytes.table(121));
        good("no entries", Bytes.module(Bytes.table(0)));
        KIT.due("moduleAt(0, 3)", Kit.read(Bytes.module(Bytes.table(120))).moduleAt(0, 3), 120);
    }

    /** "16 pages (at most)"; "a MEMORY of at least and at most so many PAGES" */
    private static void pagesUpTo16() {
        good("16 pages", Bytes.module(Bytes.memory(0, 16)));
        bad("17 pages", 5, Bytes.head(), Bytes.memory(0, 17));
        bad("17 pages, 17 at least", 5, Bytes.head(), Bytes.memory(17, 17));
        reading("17 at least, 16 at most", 2, 5, Bytes.module(Bytes.memory(17, 16)));
        Wasmhall hall = Kit.read(Bytes.module(Bytes.memory(3, 16)));
        KIT.due("at least", hall.moduleAt(0, 7), 3);
        KIT.due("at most", hall.moduleAt(0, 8), 16);
    }

    private static void exportsUpTo20() {
        int[][] exports = new int[21][];
        for (int i = 0; i < 21; i++) {
            exports[i] = Bytes.exported("" + (char) ('a' + i), 0);
        }
        int[] begin = Bytes.module(TYPES, DUP);
        good("20 exports", begin, Bytes.section(7, Bytes.row(java.util.Arrays.copyOf(exports, 20))));
        bad("21 exports", 2, begin, Bytes.section(7, Bytes.row(exports)));
    }

    /** "names of more than 8 bytes" */
    private static void namesUpTo8() {
        int[] begin = Bytes.module(TYPES, DUP);
        good("an export of 8 bytes", begin, Bytes.section(7, Bytes.row(Bytes.exported("12345678", 0))));
        good("an export of no bytes", begin, Bytes.section(7, Bytes.row(Bytes.exported("", 0))));
        bad("an export of 9 bytes", 3, begin, Bytes.section(7, Bytes.row(Bytes.exported("123456789", 0))));
        int[] types = Bytes.module(TYPES);
        reading("an import of 8 bytes", 2, 2, types, Bytes.section(2, Bytes.row(Bytes.imported("dupdupdu", 0))));
        bad("an import of 9 bytes", 5, types, Bytes.section(2, Bytes.row(Bytes.imported("dupdupdup", 0))));
        reading("a house of 8 bytes", 2, 2, types, Bytes.section(2, Bytes.row(Bytes.join(Bytes.name("hhhhhhhh"),
            Bytes.name("dup"), o(0, 0)))));
        bad("a house of 9 bytes", 3, types, Bytes.section(2, Bytes.row(Bytes.join(Bytes.name("hhhhhhhhh"), Bytes.name("dup"),
            o(0, 0)))));
        // Bytes of names are any.
        good("names of any bytes", begin, Bytes.section(7, o(4, 2, 0, 0, 0, 0, 1, 255, 0, 0, 1, 128, 0, 0, 0, 0, 0)));
    }

    private static void elementsUpTo10() {
        good("10 elements", Bytes.module(Bytes.section(9, Bytes.join(o(10), Bytes.repeat(10, Bytes.element(0))))));
        bad("11 elements", 2, Bytes.head(), Bytes.section(9, Bytes.join(o(11), Bytes.repeat(11, Bytes.element(0)))));
    }

    /** "10 elements with together more than 120 functions" */
    private static void functionsOfElementsUpTo120() {
        int[] begin = Bytes.module(TYPES, DUP, Bytes.table(120));
        good("120 functions in one", begin, Bytes.section(9, Bytes.row(Bytes.element(0, new int[120]))));
        bad("121 functions in one", 3 + 4, begin, Bytes.section(9, Bytes.row(Bytes.element(0, new int[121]))));
        int[] hundred = Bytes.element(0, new int[100]);
        good("100 and 20", begin, Bytes.section(9, Bytes.row(hundred, Bytes.element(0, new int[20]))));
        bad("100 and 21", 4 + hundred.length + 4, begin, Bytes.section(9, Bytes.row(hundred, Bytes.element(0, new int[21]))));
        good("120 and none", begin, Bytes.section(9, Bytes.row(Bytes.element(0, new int[120]), Bytes.element(3))));
    }

    /** "500 locals (beyond parameters)" */
    private static void localsUpTo500() {
        good("500 locals", BEGIN, Bytes.section(10, Bytes.row(Bytes.code(500))));
        bad("501 locals", 5, BEGIN, Bytes.section(10, Bytes.row(Bytes.code(501))));
        good("499 and 1", BEGIN, Bytes.section(10, Bytes.row(Bytes.sized(o(2, 243, 3, 127, 1, 127, 11)))));
        bad("499 and 2", 8, BEGIN, Bytes.section(10, Bytes.row(Bytes.sized(o(2, 243, 3, 127, 2, 127, 11)))));
        bad("500 and 1", 8, BEGIN, Bytes.section(10, Bytes.row(Bytes.sized(o(2, 244, 3, 127, 1, 127, 11)))));
        good("500 and 0", BEGIN, Bytes.section(10, Bytes.row(Bytes.sized(o(2, 244, 3, 127, 0, 127, 11)))));
        // Beyond parameters: 60 of these and 500 locals.
        Wasmhall hall = Kit.read(Bytes.module(Bytes.section(1, Bytes.row(Bytes.type(60, 0))), Bytes.section(3, o(1, 0)),
            Bytes.section(10, Bytes.row(Bytes.code(500, o(32, 175, 4, 26))))));
        KIT.due("local 559", hall.fault(true), 0);
        Wasmhall beyond = Kit.read(Bytes.module(Bytes.section(1, Bytes.row(Bytes.type(60, 0))), Bytes.section(3, o(1, 0)),
            Bytes.section(10, Bytes.row(Bytes.code(500, o(32, 176, 4, 26))))));
        KIT.due("local 560", beyond.fault(true) + " " + beyond.fault(false), "3 0");
    }

    /** "6000 instructions of a function, ... at the byte by which it is more" */
    private static void instructionsUpTo6000() {
        good("6000 instructions", BEGIN, Bytes.section(10, Bytes.row(Bytes.code(0, Bytes.repeat(5999, 1)))));
        bad("6001 instructions", 3 + 1 + 2 + 1 + 6000, BEGIN, Bytes.section(10, Bytes.row(Bytes.code(0, Bytes.repeat(6000, 1)))));
        // 2999 of two bytes, 3000 of one, and end.
        int[] mixed = Bytes.repeat(3000, 65, 1, 26);
        bad("6001 instructions of some bytes", 3 + 1 + 2 + 1 + 9000, BEGIN, Bytes.section(10, Bytes.row(Bytes.code(0, mixed))));
        good("6000 instructions of some bytes", BEGIN, Bytes.section(10, Bytes.row(Bytes.code(0, Bytes.join(o(1),
            Bytes.repeat(2999, 65, 1, 26))))));
        int[] two = Bytes.module(TYPES, Bytes.section(3, o(2, 4, 4)));
        good("6000 each", two, Bytes.section(10, Bytes.row(Bytes.code(0, Bytes.repeat(5999, 1)),
            Bytes.code(0, Bytes.repeat(5999, 1)))));
    }

    /** "more than 30 blocks, loops and ifs open" */
    private static void blocksUpTo30() {
        int[][] kinds = {o(2, 64), o(3, 64), o(65, 0, 4, 64)};
        for (int[] kind : kinds) {
            good("30 of " + text(kind), BEGIN, Bytes.section(10, Bytes.row(Bytes.code(0, Bytes.repeat(30, kind),
                Bytes.repeat(30, 11)))));
            bad("31 of " + text(kind), (kind.length > 2 ? 7 : 5) + 31 * kind.length - 2, BEGIN, Bytes.section(10, Bytes.row(Bytes.code(0,
                Bytes.repeat(31, kind), Bytes.repeat(31, 11)))));
        }
        good("30 and 30", BEGIN, Bytes.section(10, Bytes.row(Bytes.code(0, Bytes.repeat(2, Bytes.join(Bytes.repeat(30, 2, 64),
            Bytes.repeat(30, 11)))))));
        good("one that is closed ahead of the 31st", BEGIN, Bytes.section(10, Bytes.row(Bytes.code(0, Bytes.repeat(30, 2, 64),
            o(11, 2, 64), Bytes.repeat(30, 11)))));
    }

    /** "an import of another name than h and one of the five, or of another type than theirs" */
    private static void importsOfTheHouse() {
        String[] names = {"dup", "drop", "link", "pair", "room"};
        int[] due = {0, 1, 2, 2, 0};
        int[] types = Bytes.module(TYPES);
        for (int i = 0; i < 5; i++) {
            for (int type = 0; type < 5; type++) {
                boolean fits = type == due[i];
                reading(names[i] + " of type " + type, fits ? 0 : 2, fits ? -1 : 2, types, Bytes.section(2, Bytes.row(
                    Bytes.imported(names[i], type))));
            }
            for (String name : new String[] {names[i] + "s", names[i].substring(1), names[i].toUpperCase(), names[i] + "\0", ""}) {
                reading("an import " + name, 2, 2, types, Bytes.section(2, Bytes.row(Bytes.imported(name, due[i]))));
            }
        }
        for (String house : new String[] {"", "g", "H", "hh", "\0h", "h\0"}) {
            reading("a house " + house, 2, 2, types, Bytes.section(2, Bytes.row(Bytes.join(Bytes.name(house), Bytes.name("dup"),
                o(0, 0)))));
        }
        good("one name twice", types, Bytes.section(2, Bytes.row(Bytes.imported("dup", 0), Bytes.imported("dup", 0))));
        reading("the second one of another type", 2, 2, types, Bytes.section(2, Bytes.row(Bytes.imported("dup", 0),
            Bytes.imported("dup", 1))));
    }

    /** "a type ... that there is not" */
    private static void typesThereAre() {
        int[] types = Bytes.module(TYPES);
        reading("an import of type 5", 2, 2, types, Bytes.section(2, Bytes.row(Bytes.imported("dup", 5))));
        good("a function of type 4", types, Bytes.section(3, o(1, 4)), Bytes.section(10, Bytes.row(Bytes.code(0))));
        reading("a function of type 5", 2, 3, types, Bytes.section(3, o(1, 5)), Bytes.section(10, Bytes.row(Bytes.code(0))));
        reading("a function of type 2147483648", 2, 3, types, Bytes.section(3, o(1, 128, 128, 128, 128, 8)));
        reading("a function without any types", 2, 3, Bytes.head(), Bytes.section(3, o(1, 0)));
    }

    /** "a function that there is not": imports and own ones. */
    private static void functionsThereAre() {
        int[] begin = Bytes.module(TYPES, DUP, ONE, Bytes.table(2));
        int[] codes = Bytes.section(10, Bytes.row(Bytes.code(0)));
        for (int f = 0; f < 4; f++) {
            reading("an export of " + f, f < 2 ? 0 : 2, f < 2 ? -1 : 7, begin, Bytes.section(7, Bytes.row(Bytes.exported("a", f))),
                codes);
            reading("an element of " + f, f < 2 ? 0 : 2, f < 2 ? -1 : 9, begin, Bytes.section(9, Bytes.row(Bytes.element(0, f))),
                codes);
        }
        reading("an export of 4294967295", 2, 7, begin, Bytes.section(7, o(1, 1, 97, 0, 255, 255, 255, 255, 15)), codes);
        reading("an element of 4294967295", 2, 9, begin, Bytes.section(9, o(1, 0, 65, 0, 11, 1, 255, 255, 255, 255, 15)), codes);
    }

    /** "a name exported twice" */
    private static void namesTwice() {
        int[] begin = Bytes.module(TYPES, DUP);
        good("one function by two names", begin, Bytes.section(7, Bytes.row(Bytes.exported("a", 0), Bytes.exported("b", 0))));
        reading("one name twice", 2, 7, begin, Bytes.section(7, Bytes.row(Bytes.exported("a", 0), Bytes.exported("b", 0),
            Bytes.exported("a", 0))));
        reading("no name twice", 2, 7, begin, Bytes.section(7, Bytes.row(Bytes.exported("", 0), Bytes.exported("", 0))));
        good("names that a 0 tells apart", begin, Bytes.section(7, Bytes.row(Bytes.exported("", 0), Bytes.exported("\0", 0),
            Bytes.exported("\0\0", 0), Bytes.exported("a", 0), Bytes.exported("\0a", 0), Bytes.exported("a\0", 0))));
        reading("8 bytes twice", 2, 7, begin, Bytes.section(7, Bytes.row(Bytes.exported("12345678", 0),
            Bytes.exported("12345678", 0))));
        good("the eighth byte", begin, Bytes.section(7, Bytes.row(Bytes.exported("12345678", 0), Bytes.exported("12345679", 0),
            Bytes.exported("02345678", 0))));
    }

    private static void atLeastAboveAtMost() {
        for (int most = 0; most <= 16; most += 8) {
            good("as many at least as at most", Bytes.module(Bytes.memory(most, most)));
            reading("one more at least", 2, 5, Bytes.module(Bytes.memory(most + 1, most)));
        }
        reading("4294967295 at least", 2, 5, Bytes.head(), Bytes.section(5, o(1, 1, 255, 255, 255, 255, 15, 16)));
        reading("2147483648 at least", 2, 5, Bytes.head(), Bytes.section(5, o(1, 1, 128, 128, 128, 128, 8, 16)));
    }

    /** "a row of functions (also one of none) that begins behind the end of the table (without a table: ...), or goes beyond it" */
    private static void rowsWithinTheTable() {
        int[] none = Bytes.module(TYPES, DUP);
        int[] three = Bytes.module(TYPES, DUP, Bytes.table(3));
        for (int place = -1; place <= 4; place++) {
            for (int many = 0; many <= 4; many++) {
                boolean fits = place >= 0 && place + many <= 3;
                reading(many + " at " + place + " of 3", fits ? 0 : 2, fits ? -1 : 9, three, Bytes.section(9, Bytes.row(
                    Bytes.element(place, new int[many]))));
                boolean fitsNone = place == 0 && many == 0;
                reading(many + " at " + place + " of none", fitsNone ? 0 : 2, fitsNone ? -1 : 9, none, Bytes.section(9, Bytes.row(
                    Bytes.element(place, new int[many]))));
                reading(many + " at " + place + " of 0", fitsNone ? 0 : 2, fitsNone ? -1 : 9, Bytes.module(TYPES, DUP,
                    Bytes.table(0)), Bytes.section(9, Bytes.row(Bytes.element(place, new int[many]))));
            }
        }
        reading("at the greatest place", 2, 9, three, Bytes.section(9, Bytes.row(Bytes.element(Integer.MAX_VALUE, 0))));
        reading("at the least place", 2, 9, three, Bytes.section(9, Bytes.row(Bytes.element(Integer.MIN_VALUE))));
        reading("the second one goes beyond", 2, 9, three, Bytes.section(9, Bytes.row(Bytes.element(0, 0, 0, 0),
            Bytes.element(2, 0, 0))));
        good("one over the other", three, Bytes.section(9, Bytes.row(Bytes.element(0, 0, 0, 0), Bytes.element(1, 0, 0))));
    }

    /** "codes of another number than functions" */
    private static void codesAsManyAsFunctions() {
        for (int functions = 0; functions <= 3; functions++) {
            for (int codes = 0; codes <= 3; codes++) {
                boolean fits = functions == codes;
                reading(functions + " functions, " + codes + " codes", fits ? 0 : 2, fits ? -1 : 10, Bytes.module(TYPES,
                    Bytes.section(3, Bytes.join(o(functions), Bytes.repeat(functions, 4))),
                    Bytes.section(10, Bytes.join(o(codes), Bytes.repeat(codes, 2, 0, 11)))));
            }
        }
        reading("no section of codes", 2, 10, BEGIN);
        good("no sections of both", Bytes.module(TYPES));
    }

    /** "Kind 2, if there is none: the first of these, by sections"; "Kind 3" */
    private static void kindsInTheirOrder() {
        int[] import2 = Bytes.section(2, Bytes.row(Bytes.imported("dup", 1)));
        int[] function2 = Bytes.section(3, o(1, 9));
        int[] memory2 = Bytes.memory(2, 1);
        int[] export2 = Bytes.section(7, Bytes.row(Bytes.exported("a", 9)));
        int[] element2 = Bytes.section(9, Bytes.row(Bytes.element(9)));
        int[] code3 = Bytes.section(10, Bytes.row(Bytes.code(0, o(26)), Bytes.code(0)));
        int[][] all = {import2, function2, memory2, export2, element2, code3};
        int[] places = {2, 3, 5, 7, 9, 10};
        for (int from = 0; from < 6; from++) {
            int[][] rest = all.clone();
            for (int i = 0; i < from; i++) {
                rest[i] = o();
            }
            reading("faults from section " + places[from] + " on", 2, places[from], Bytes.module(TYPES), Bytes.join(rest));
            int[] first = Bytes.join(Bytes.module(TYPES), Bytes.join(rest));
            bad("kind 1 behind all of them", 0, first, o(99));
        }
        reading("kind 3", 3, 0, BEGIN, Bytes.section(10, Bytes.row(Bytes.code(0, o(26)))));
        reading("kind 2 ahead of kind 3", 2, 5, Bytes.module(TYPES, ONE, memory2, Bytes.section(10, Bytes.row(Bytes.code(0,
            o(26))))));
    }

    /** "its place is 10000 times the function (imports count) and the instruction" */
    private static void placesOfKind3() {
        int[] good = Bytes.code(0, o(1));
        int[] wrong = Bytes.code(0, o(1, 1, 65, 0, 26, 26, 1));
        for (int imports = 0; imports <= 2; imports++) {
            int[] begin = Bytes.module(TYPES, imports == 0 ? o() : Bytes.section(2, Bytes.join(o(imports), Bytes.repeat(imports,
                Bytes.imported("dup", 0)))), Bytes.section(3, o(3, 4, 4, 4)));
            reading("the first function", 3, 10000 * imports + 4, begin, Bytes.section(10, Bytes.row(wrong, wrong, good)));
            reading("the second function", 3, 10000 * (imports + 1) + 4, begin, Bytes.section(10, Bytes.row(good, wrong, wrong)));
            reading("the third function", 3, 10000 * (imports + 2) + 4, begin, Bytes.section(10, Bytes.row(good, good, wrong)));
        }
        reading("the last instruction of 6000", 3, 5999, BEGIN, Bytes.section(10, Bytes.row(Bytes.code(0, Bytes.repeat(5998, 1),
            o(65, 0)))));
    }

    /** "Reads the BYTES as a module. They stay." */
    private static void readKeepsTheBytes() {
        Wasmhall hall = Kit.read(Bytes.head());
        String bytes = Kit.bytes(hall);
        KIT.due("the BYTES stay", bytes, text(Bytes.head()));
        hall.bytes(99, 1);
        KIT.due("read() with a fault", hall.read(), -1);
        KIT.due("the BYTES stay, too", Kit.bytes(hall), bytes + " 99");
        KIT.due("no module of it", hall.clearModules(), 1);
    }

    /** "Returns the kind (1 to 3), or the place; 0 and NONE if there was none." */
    private static void faultOfTheLatest() {
        Wasmhall hall = new Wasmhall();
        KIT.due("ahead of any", hall.fault(true) + " " + hall.fault(false), "0 -1");
        KIT.due("read() of nothing", hall.read(), -1);
        KIT.due("its fault", hall.fault(true) + " " + hall.fault(false), "1 0");
        Kit.putBytes(hall, Bytes.head());
        KIT.due("the fault stays until the next read()", hall.fault(true) + " " + hall.fault(false), "1 0");
        KIT.due("read() of a head", hall.read(), 0);
        KIT.due("no fault", hall.fault(true) + " " + hall.fault(false), "0 -1");
        hall.write(0);
        hall.errors();
        KIT.due("errors() is a question", hall.fault(true) + " " + hall.fault(false), "0 -1");
    }

    /** "IllegalStateException if there are 8 modules" */
    private static void eightModules() {
        Wasmhall hall = Kit.read(Bytes.head());
        for (int i = 1; i < 8; i++) {
            KIT.due("read()", hall.read(), i);
        }
        KIT.refused(hall, "a 9th read()", IllegalStateException.class, hall::read);
        hall.cutBytes(3);
        KIT.refused(hall, "a 9th read() of a fault", IllegalStateException.class, hall::read);
        KIT.due("no fault of it", hall.fault(true) + " " + hall.fault(false), "0 -1");
        hall.clearModules();
        KIT.due("read() of the fault", hall.read(), -1);
        KIT.due("its fault", hall.fault(true) + " " + hall.fault(false), "1 3");
    }

    /** "(Elements are written as they are ...; locals in one entry, or none.)", "all stand in what is written" */
    private static void writtenAsItIs() {
        Wasmhall hall = Kit.read(Bytes.module(TYPES, DUP, Bytes.section(3, o(2, 4, 4)), Bytes.table(4), Bytes.section(9, Bytes.row(
            Bytes.element(1), Bytes.element(2, 0, 1), Bytes.element(0, 2))), Bytes.section(10, Bytes.row(
            Bytes.sized(o(3, 1, 127, 0, 127, 2, 127, 11)), Bytes.sized(o(1, 0, 127, 11))))));
        KIT.due("its fault", hall.fault(true), 0);
        hall.write(0);
        String due = text(Bytes.join(Bytes.module(TYPES, DUP, Bytes.section(3, o(2, 4, 4)), Bytes.table(4),
            Bytes.section(7, o(0)), Bytes.section(9, Bytes.row(Bytes.element(1), Bytes.element(2, 0, 1), Bytes.element(0, 2))),
            Bytes.section(10, Bytes.row(Bytes.sized(o(1, 3, 127, 11)), Bytes.sized(o(0, 11)))))));
        KIT.due("as it is written", Kit.bytes(hall), due);
        Wasmhall bare = Kit.read(Bytes.head());
        bare.write(0);
        KIT.due("a head", Kit.bytes(bare), "0 97 115 109 1 0 0 0 1 1 0 2 1 0 3 1 0 7 1 0 9 1 0 10 1 0");
        Wasmhall both = Kit.read(Bytes.module(Bytes.table(0), Bytes.memory(0, 0)));
        both.write(0);
        KIT.due("table and memory", Kit.bytes(both), "0 97 115 109 1 0 0 0 1 1 0 2 1 0 3 1 0 4 4 1 112 0 0 5 4 1 1 0 0 7 1 0 9 1 0"
            + " 10 1 0");
    }

    /** Each instruction of the list is written by its byte and what stands with it. */
    private static void eachInstructionWritten() {
        int[] body = Bytes.asm("unreachable, nop, block 64, end, block 127, const 1, end, loop 64, end, loop 127, const 1, end,"
            + "if 64, else, end, const 1, if 127, const 2, else, const 3, end, br 0, const 1, br_if 0, return, call 0,"
            + "const 5, call_indirect 1, drop, select, get 0, set 0, tee 0, load 300, const 1, store 0, size, grow, const -300, eqz,"
            + "eq, ne, lt_s, lt_u, gt_s, le_s, ge_s, add, sub, mul, div_s, rem_s, and, or, xor, shl, shr_s, shr_u, drop");
        int[] all = Bytes.module(TYPES, DUP, ONE, Bytes.table(1), Bytes.memory(1, 1), Bytes.section(7, o(0)), Bytes.section(9, o(0)),
            Bytes.section(10, Bytes.row(Bytes.code(1, body))));
        Wasmhall hall = Kit.read(all);
        KIT.due("its fault", hall.fault(true) + " " + hall.fault(false), "0 -1");
        KIT.due("write(0)", hall.write(0), all.length);
        KIT.due("as it was read", Kit.bytes(hall), text(all));
        KIT.due("read() again", hall.read(), 1);
        KIT.due("the same", hall.same(0, 1), true);
    }

    private static int[] module(int... n) {
        return Bytes.module(TYPES, DUP, Bytes.section(3, o(1, n[0])), Bytes.table(n[1]), Bytes.memory(n[2], n[3]),
            Bytes.section(7, Bytes.row(Bytes.exported(n[4] == 0 ? "a" : "b", n[5]))), Bytes.section(9, Bytes.row(
            Bytes.element(n[6], n[7]))), Bytes.section(10, Bytes.row(Bytes.code(n[8], n[9] == 0 ? o(0) : o(0, 1)))));
    }

    /** "whether two modules are the same in all that section 6 tells" */
    private static void sameInAll() {
        int[] base = {4, 3, 1, 2, 0, 0, 0, 0, 1, 0};
        int[] change = {3, 4, 0, 3, 1, 1, 1, 1, 2, 1};
        for (int i = 0; i < base.length; i++) {
            int[] other = base.clone();
            other[i] = change[i];
            Wasmhall hall = Kit.read(module(base));
            hall.cutBytes(0);
            Kit.putBytes(hall, module(other));
            KIT.due("read() of the one that is changed at " + i, hall.read(), 1);
            KIT.due("same(0, 1)", hall.same(0, 1), false);
            KIT.due("same(1, 0)", hall.same(1, 0), false);
            KIT.due("same(1, 1)", hall.same(1, 1), true);
        }
        Wasmhall hall = Kit.read(module(base));
        hall.read();
        KIT.due("the same bytes", hall.same(0, 1), true);
        for (int wrong : new int[] {-1, 2, Integer.MAX_VALUE, Integer.MIN_VALUE}) {
            KIT.refused(hall, "same(0, " + wrong + ")", IndexOutOfBoundsException.class, () -> hall.same(0, wrong));
            KIT.refused(hall, "same(" + wrong + ", 0)", IndexOutOfBoundsException.class, () -> hall.same(wrong, 0));
        }
        // That it was made is nothing of section 6.
        Wasmhall made = Kit.made("def f = 1;", 0);
        made.write(0);
        made.read();
        KIT.due("made and read", made.same(0, 1), true);
        KIT.due("moduleAt(0, 6)", made.moduleAt(0, 6), 1);
        KIT.due("moduleAt(1, 6)", made.moduleAt(1, 6), 0);
    }

    /** "Drops all modules and runs." */
    private static void clearModules() {
        Wasmhall hall = Kit.made("def f = [1];", 0);
        hall.make(0, 1);
        hall.begin(0, 0, 0, 0, 0);
        KIT.due("clearModules()", hall.clearModules(), 2);
        KIT.refused(hall, "moduleAt(0, 0)", IndexOutOfBoundsException.class, () -> hall.moduleAt(0, 0));
        KIT.refused(hall, "runAt(0, 0)", IndexOutOfBoundsException.class, () -> hall.runAt(0, 0));
        KIT.due("programs stay", hall.definitions(0), 1);
        KIT.due("clearModules() of none", hall.clearModules(), 0);
        KIT.due("make() is module 0 again", hall.make(0, 0), 0);
        KIT.due("begin() is run 0 again", hall.begin(0, 0, 0, 0, 0), 0);
        KIT.due("and at its beginning", hall.runAt(0, 1) + hall.runAt(0, 7), 0);
    }
}
