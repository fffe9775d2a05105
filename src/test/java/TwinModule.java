import java.util.ArrayList;
import java.util.List;

/** Section 6 anew: what a module has, and its bytes as written. */
final class TwinModule {
    /** A type: so many parameters, with or without a value. */
    record Type(int parameters, boolean hasValue) {
    }

    record Import(String name, long type) {
    }

    record Memory(long atLeast, long atMost) {
    }

    record Export(String name, long function) {
    }

    record Element(long place, List<Long> functions) {
    }

    /** An instruction; what stands with it, or NONE. Offsets and numbers of things are without a sign. */
    record Op(int code, long with) {
        Op(int code) {
            this(code, -1);
        }
    }

    record Code(int locals, List<Op> ops) {
    }

    static final List<String> HOST = List.of("dup", "drop", "link", "pair", "room");
    static final List<Type> HOST_TYPES = List.of(new Type(1, true), new Type(1, false), new Type(2, true),
        new Type(2, true), new Type(1, true));
    final List<Type> types = new ArrayList<>();
    final List<Import> imports = new ArrayList<>();
    final List<Long> functions = new ArrayList<>();
    /** Null without a table. */
    Integer table;
    /** Null without a memory. */
    Memory memory;
    final List<Export> exports = new ArrayList<>();
    final List<Element> elements = new ArrayList<>();
    final List<Code> codes = new ArrayList<>();
    /** The definitions that it was made of; null if it was read. */
    List<TwinText.Definition> made;

    int functionCount() {
        return imports.size() + functions.size();
    }

    long typeNumber(int function) {
        return function < imports.size() ? imports.get(function).type : functions.get(function - imports.size());
    }

    Type typeOf(int function) {
        return types.get((int) typeNumber(function));
    }

    Code codeOf(int function) {
        return codes.get(function - imports.size());
    }

    /** All that section 6 tells, to be compared. */
    List<Object> whole() {
        return List.of(types, imports, functions, table == null ? "none" : table, memory == null ? "none" : memory,
            exports, elements, codes);
    }

    // Bytes.

    /** The bytes as written. */
    static List<Integer> written(TwinModule module) {
        Writer writer = new Writer();
        writer.module(module);
        return writer.bytes;
    }

    private static final class Writer {
        private final List<Integer> bytes = new ArrayList<>();

        private void put(int... some) {
            for (int one : some) {
                bytes.add(one);
            }
        }

        private void n(long number) {
            if (number < 128) {
                put((int) number);
            } else {
                put((int) (number % 128) + 128);
                n(number / 128);
            }
        }

        private void s(long number) {
            if (number >= -64 && number < 64) {
                put((int) Math.floorMod(number, 128L));
            } else {
                put((int) Math.floorMod(number, 128L) + 128);
                s(Math.floorDiv(number, 128L));
            }
        }

        private void name(String name) {
            n(name.length());
            for (char sign : name.toCharArray()) {
                put(sign);
            }
        }

        private void sized(Writer content) {
            n(content.bytes.size());
            bytes.addAll(content.bytes);
        }

        private void section(int number, Writer content) {
            put(number);
            sized(content);
        }

        private static Writer row(int many) {
            Writer row = new Writer();
            row.n(many);
            return row;
        }

        void module(TwinModule module) {
            put(0, 97, 115, 109, 1, 0, 0, 0);
            section(1, types(module));
            section(2, imports(module));
            Writer functions = row(module.functions.size());
            module.functions.forEach(functions::n);
            section(3, functions);
            if (module.table != null) {
                Writer table = row(1);
                table.put(112, 0);
                table.n(module.table);
                section(4, table);
            }
            if (module.memory != null) {
                Writer memory = row(1);
                memory.put(1);
                memory.n(module.memory.atLeast);
                memory.n(module.memory.atMost);
                section(5, memory);
            }
            Writer exports = row(module.exports.size());
            for (Export export : module.exports) {
                exports.name(export.name);
                exports.put(0);
                exports.n(export.function);
            }
            section(7, exports);
            section(9, elements(module));
            section(10, codes(module));
        }

        private static Writer types(TwinModule module) {
            Writer types = row(module.types.size());
            for (Type type : module.types) {
                types.put(96);
                types.n(type.parameters);
                for (int i = 0; i < type.parameters; i++) {
                    types.put(127);
                }
                types.put(type.hasValue ? new int[] {1, 127} : new int[] {0});
            }
            return types;
        }

        private static Writer imports(TwinModule module) {
            Writer imports = row(module.imports.size());
            for (Import one : module.imports) {
                imports.name("h");
                imports.name(one.name);
                imports.put(0);
                imports.n(one.type);
            }
            return imports;
        }

        private static Writer elements(TwinModule module) {
            Writer elements = row(module.elements.size());
            for (Element element : module.elements) {
                elements.put(0, 65);
                elements.s(element.place);
                elements.put(11);
                elements.n(element.functions.size());
                element.functions.forEach(elements::n);
            }
            return elements;
        }

        private static Writer codes(TwinModule module) {
            Writer codes = row(module.codes.size());
            for (Code code : module.codes) {
                Writer one = row(code.locals == 0 ? 0 : 1);
                if (code.locals > 0) {
                    one.n(code.locals);
                    one.put(127);
                }
                code.ops.forEach(one::op);
                codes.sized(one);
            }
            return codes;
        }

        private void op(Op op) {
            put(op.code);
            switch (op.code) {
                case 2: case 3: case 4: case 12: case 13: case 16: case 32: case 33: case 34:
                    n(op.with);
                    break;
                case 17:
                    n(op.with);
                    put(0);
                    break;
                case 40: case 54:
                    put(2);
                    n(op.with);
                    break;
                case 63: case 64:
                    put(0);
                    break;
                case 65:
                    s(op.with);
                    break;
                default:
                    break;
            }
        }
    }
}
