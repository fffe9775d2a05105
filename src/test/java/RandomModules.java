import java.util.ArrayList;
import java.util.List;
import java.util.Random;

/** Bytes of modules put together by chance: most are valid, and their functions do something with the host and memory. */
final class RandomModules {
    private static final String[] HOST = {"dup", "drop", "link", "pair", "room"};
    private static final int[][] HOST_TYPES = {{1, 1}, {1, 0}, {2, 1}, {2, 1}, {1, 1}};
    private static final String[] ONE = {"eqz", "load 0", "load 4", "load 8", "grow", "tee"};
    private static final String[] TWO = {"eq", "ne", "lt_s", "lt_u", "gt_s", "le_s", "ge_s", "add", "sub", "mul", "div_s",
        "rem_s", "and", "or", "xor", "shl", "shr_s", "shr_u"};
    private static final int[] WORDS = {0, 1, 2, 3, 4, 5, 7, 8, 12, 16, 20, 24, 28, 32, 48, 64, 80, 81, 1016, 1020, 1021,
        1024, 2044, -1, -2, -4, 31, 33, 1073741824, Integer.MIN_VALUE, Integer.MAX_VALUE};
    private final Random random;
    private final List<int[]> types = new ArrayList<>();
    private final List<Integer> imports = new ArrayList<>();
    private final List<Integer> functions = new ArrayList<>();
    private int entries;
    private boolean hasMemory;
    /** How often something is put that may be wrong: one time of so many. */
    private final int wild;
    private StringBuilder code = new StringBuilder();
    private int locals;
    private int length;

    RandomModules(long seed) {
        random = new Random(seed);
        wild = oneOf(2) ? 20 + random.nextInt(60) : 100000;
    }

    private boolean oneOf(int many) {
        return random.nextInt(many) == 0;
    }

    int[] bytes() {
        makeShape();
        List<int[]> sections = new ArrayList<>();
        int[][] all = new int[types.size()][];
        for (int i = 0; i < all.length; i++) {
            all[i] = Bytes.type(types.get(i)[0], types.get(i)[1]);
        }
        sections.add(Bytes.section(1, Bytes.row(all)));
        addSome(sections, 2, importRow());
        addSome(sections, 3, functionRow());
        if (entries >= 0) {
            sections.add(Bytes.table(entries));
        }
        if (hasMemory) {
            sections.add(Bytes.memory(oneOf(4) ? 0 : 1 + random.nextInt(2), oneOf(5) ? 1 : 2 + random.nextInt(3)));
        }
        addSome(sections, 7, exportRow());
        addSome(sections, 9, elementRow());
        addSome(sections, 10, codeRow());
        return Bytes.module(sections.toArray(new int[0][]));
    }

    private void makeShape() {
        for (int[] type : HOST_TYPES) {
            types.add(type);
        }
        for (int i = random.nextInt(4); i >= 0; i--) {
            types.add(new int[] {random.nextInt(4), random.nextInt(2)});
        }
        for (int i = random.nextInt(9); i > 0; i--) {
            imports.add(random.nextInt(5));
        }
        for (int i = random.nextInt(5); i >= 0; i--) {
            functions.add(random.nextInt(types.size()));
        }
        entries = oneOf(4) ? -1 : random.nextInt(8);
        hasMemory = !oneOf(5);
    }

    /** A section without anything may lack. */
    private void addSome(List<int[]> sections, int number, List<int[]> row) {
        if (!row.isEmpty() || oneOf(2)) {
            sections.add(Bytes.section(number, Bytes.row(row.toArray(new int[0][]))));
        }
    }

    private List<int[]> importRow() {
        List<int[]> row = new ArrayList<>();
        for (int host : imports) {
            row.add(Bytes.imported(oneOf(wild) ? "dap" : HOST[host], oneOf(wild) ? random.nextInt(9) : host));
        }
        return row;
    }

    private List<int[]> functionRow() {
        List<int[]> row = new ArrayList<>();
        for (int type : functions) {
            row.add(Bytes.n(oneOf(wild) ? types.size() : type));
        }
        return row;
    }

    private int someFunction() {
        return random.nextInt(imports.size() + functions.size() + (oneOf(wild) ? 1 : 0));
    }

    private List<int[]> exportRow() {
        List<int[]> row = new ArrayList<>();
        for (int i = 0; i < functions.size(); i++) {
            row.add(Bytes.exported(oneOf(wild) ? "e0" : "e" + i, oneOf(6) ? someFunction() : imports.size() + i));
        }
        return row;
    }

    private List<int[]> elementRow() {
        List<int[]> row = new ArrayList<>();
        for (int i = random.nextInt(3); i > 0; i--) {
            int room = Math.max(0, entries);
            int place = random.nextInt(room + 1);
            int[] own = new int[random.nextInt(room - place + 1) + (oneOf(wild) ? 1 : 0)];
            place += oneOf(wild) ? 1 : 0;
            for (int k = 0; k < own.length; k++) {
                own[k] = someFunction();
            }
            row.add(Bytes.element(place, own));
        }
        return row;
    }

    private List<int[]> codeRow() {
        List<int[]> row = new ArrayList<>();
        for (int type : functions) {
            int own = random.nextInt(3);
            locals = types.get(type)[0] + own;
            code = new StringBuilder();
            length = 0;
            boolean hasValue = types.get(type)[1] == 1;
            List<Boolean> blocks = new ArrayList<>(List.of(hasValue));
            putAll(blocks, random.nextInt(oneOf(4) ? 40 : 12));
            row.add(Bytes.code(own, Bytes.asm(code.toString())));
        }
        return row;
    }

    private void put(String words) {
        code.append(words).append(',');
        length++;
    }

    /**
     * Puts instructions of one block, up to its end. Of the blocks around it, the last one is the innermost: whether a
     * br to it takes a value.
     */
    private void putAll(List<Boolean> blocks, int many) {
        boolean hasValue = blocks.get(blocks.size() - 1);
        putAll(blocks, many, hasValue);
    }

    private void putAll(List<Boolean> blocks, int many, boolean hasValue) {
        int height = 0;
        for (int i = 0; i < many && length < 150; i++) {
            height = oneOf(wild) ? wildOne(height) : putOne(blocks, height);
            if (height < 0) {
                if (oneOf(3)) {
                    put("const 1");
                    put("drop");
                }
                return;
            }
        }
        int due = hasValue ? 1 : 0;
        for (; height > due; height--) {
            put("drop");
        }
        for (; height < due; height++) {
            put("const " + WORDS[random.nextInt(WORDS.length)]);
        }
    }

    /** An instruction that may be wrong where it stands. */
    private int wildOne(int height) {
        String[] some = {TWO[random.nextInt(TWO.length)], "else", "get " + random.nextInt(9), "drop", "select",
            "load 0", "size", "call_indirect " + random.nextInt(types.size() + 1), "br_if " + random.nextInt(4),
            "br " + random.nextInt(4), "call " + random.nextInt(12), "tee 2", "return", "if 127"};
        put(some[random.nextInt(some.length)]);
        return height;
    }

    /** Puts an instruction, or a block, that can stand on a stack of this height; answers the new height, -1 if dead. */
    private int putOne(List<Boolean> blocks, int height) {
        int which = random.nextInt(16);
        if (which < 2 && blocks.size() < 5) {
            return putBlock(blocks, height);
        }
        if (which < 5) {
            return putCall(height);
        }
        if (which == 5) {
            return putBranch(blocks, height);
        }
        if (which < 8 && height >= 1) {
            String one = ONE[random.nextInt(ONE.length)];
            boolean can = one.equals("eqz") || (one.equals("tee") ? locals > 0 : hasMemory);
            put(!can ? "nop" : one.equals("tee") ? "tee " + random.nextInt(locals) : one);
            return height;
        }
        if (which < 10 && height >= 2) {
            put(TWO[random.nextInt(TWO.length)]);
            return height - 1;
        }
        if (which == 10 && height >= 2 && hasMemory) {
            put("store " + 4 * random.nextInt(6));
            return height - 2;
        }
        if (which == 11 && height >= 1) {
            put(locals > 0 ? "set " + random.nextInt(locals) : "drop");
            return height - 1;
        }
        if (which == 12 && height >= 3) {
            put("select");
            return height - 2;
        }
        put(locals > 0 && oneOf(2) ? "get " + random.nextInt(locals) : hasMemory && oneOf(8) ? "size"
            : "const " + WORDS[random.nextInt(WORDS.length)]);
        return height + 1;
    }

    private int putBlock(List<Boolean> blocks, int height) {
        boolean hasValue = oneOf(2);
        String sort = new String[] {"block ", "loop ", "if "}[random.nextInt(3)];
        boolean isIf = sort.equals("if ") && height > 0;
        if (!isIf && sort.equals("if ")) {
            sort = "block ";
        }
        put(sort + (hasValue ? 127 : 64));
        blocks.add(hasValue && !sort.equals("loop "));
        putAll(blocks, random.nextInt(8), hasValue);
        if (isIf && (hasValue != oneOf(wild) || oneOf(2))) {
            put("else");
            putAll(blocks, random.nextInt(6), hasValue);
        }
        put("end");
        blocks.remove(blocks.size() - 1);
        return height - (isIf ? 1 : 0) + (hasValue ? 1 : 0);
    }

    private int putBranch(List<Boolean> blocks, int height) {
        int out = random.nextInt(blocks.size());
        int values = blocks.get(blocks.size() - 1 - out) ? 1 : 0;
        if (height >= values + 1 && oneOf(2)) {
            put("br_if " + out);
            return height - 1;
        }
        if (height >= values && oneOf(3)) {
            put("br " + out);
            return -1;
        }
        boolean isFunctionValued = blocks.get(0);
        if (height >= (isFunctionValued ? 1 : 0) && oneOf(6)) {
            put("return");
            return -1;
        }
        put(oneOf(9) ? "unreachable" : "nop");
        return code.toString().endsWith("unreachable,") ? -1 : height;
    }

    private int putCall(int height) {
        boolean indirect = entries > 0 && height > 0 && oneOf(3);
        int called = someFunction();
        int which = indirect ? random.nextInt(types.size())
            : called < imports.size() ? imports.get(called)
            : called < imports.size() + functions.size() ? functions.get(called - imports.size()) : 0;
        int[] type = types.get(which);
        int before = height - (indirect ? 1 : 0);
        if (before < type[0]) {
            put("const " + (oneOf(2) ? random.nextInt(8) : WORDS[random.nextInt(WORDS.length)]));
            return height + 1;
        }
        put(indirect ? "call_indirect " + which : "call " + called);
        return before - type[0] + type[1];
    }

    /** Something of a row of bytes changed. */
    static int[] changed(int[] bytes, Random random) {
        int[] all = bytes.clone();
        for (int i = random.nextInt(3); i >= 0; i--) {
            int place = random.nextInt(all.length);
            int[] some = {random.nextInt(256), all[place] + 1 & 255, all[place] - 1 & 255, all[place] ^ 128, 0, 127, 11};
            all[place] = some[random.nextInt(some.length)];
        }
        return random.nextInt(6) == 0 ? java.util.Arrays.copyOf(all, random.nextInt(all.length + 1)) : all;
    }
}
