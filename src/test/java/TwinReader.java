import java.util.ArrayList;
import java.util.HashSet;
import java.util.List;
import java.util.Set;

/** The FAULTS of section 6 anew: bytes become a module, or a fault of kind 1 or 2 is thrown. */
final class TwinReader {
    private static final Set<Integer> PLAIN = Set.of(0, 1, 5, 11, 15, 26, 27, 69, 70, 71, 72, 73, 74, 76, 78, 106, 107,
        108, 109, 111, 113, 114, 115, 116, 117, 118);
    private static final List<Integer> SECTIONS = List.of(1, 2, 3, 4, 5, 7, 9, 10);
    private final List<Integer> bytes;
    private final TwinModule module = new TwinModule();
    private int at;

    private TwinReader(List<Integer> bytes) {
        this.bytes = bytes;
    }

    static TwinModule read(List<Integer> bytes) {
        TwinReader reader = new TwinReader(bytes);
        reader.readAll();
        reader.holdTogether();
        return reader.module;
    }

    private static TwinText.Fault wrong(int place) {
        return new TwinText.Fault(1, place);
    }

    private int oneByte() {
        if (at == bytes.size()) {
            throw wrong(at);
        }
        return bytes.get(at++);
    }

    /** A byte that must be one of these. */
    private int due(Integer... some) {
        int one = oneByte();
        if (!List.of(some).contains(one)) {
            throw wrong(at - 1);
        }
        return one;
    }

    /** The groups of a number, the last one on top. */
    private List<Integer> groups() {
        int begin = at;
        List<Integer> groups = new ArrayList<>();
        do {
            if (groups.size() == 5) {
                throw wrong(begin);
            }
            groups.add(oneByte());
        } while (groups.get(groups.size() - 1) >= 128);
        return groups;
    }

    private long n() {
        return n((1L << 32) - 1);
    }

    /** A number of at most so much. */
    private long n(long most) {
        int begin = at;
        long number = 0;
        long unit = 1;
        for (int group : groups()) {
            number += unit * (group % 128);
            unit *= 128;
        }
        if (number > most) {
            throw wrong(begin);
        }
        return number;
    }

    private long s() {
        int begin = at;
        long number = 0;
        long unit = 1;
        int latest = 0;
        for (int group : groups()) {
            number += unit * (group % 128);
            unit *= 128;
            latest = group;
        }
        number -= latest >= 64 ? unit : 0;
        if (number < Integer.MIN_VALUE || number > Integer.MAX_VALUE) {
            throw wrong(begin);
        }
        return number;
    }

    private String name() {
        StringBuilder name = new StringBuilder();
        for (long many = n(8); many > 0; many--) {
            name.append((char) oneByte());
        }
        return name.toString();
    }

    private void readAll() {
        for (int one : new int[] {0, 97, 115, 109, 1, 0, 0, 0}) {
            due(one);
        }
        int latest = 0;
        while (at < bytes.size()) {
            int number = oneByte();
            if (number <= latest || !SECTIONS.contains(number)) {
                throw wrong(at - 1);
            }
            latest = number;
            long size = n();
            int begin = at;
            section(number);
            if (at - begin != size) {
                throw wrong(at);
            }
        }
    }

    private void section(int number) {
        switch (number) {
            case 1:
                for (long many = n(80); many > 0; many--) {
                    type();
                }
                break;
            case 2:
                for (long many = n(8); many > 0; many--) {
                    String house = name();
                    String name = name();
                    due(0);
                    module.imports.add(new TwinModule.Import(house.equals("h") ? name : "", n()));
                }
                break;
            case 3:
                for (long many = n(250 - module.imports.size()); many > 0; many--) {
                    module.functions.add(n());
                }
                break;
            case 4: case 5:
                one(number);
                break;
            case 7:
                for (long many = n(20); many > 0; many--) {
                    String name = name();
                    due(0);
                    module.exports.add(new TwinModule.Export(name, n()));
                }
                break;
            case 9:
                elements();
                break;
            default:
                for (long many = n(); many > 0; many--) {
                    code();
                }
                break;
        }
    }

    private void type() {
        due(96);
        int parameters = (int) n(60);
        for (int i = 0; i < parameters; i++) {
            due(127);
        }
        boolean hasValue = n(1) == 1;
        if (hasValue) {
            due(127);
        }
        module.types.add(new TwinModule.Type(parameters, hasValue));
    }

    /** The row of one table or memory. */
    private void one(int number) {
        int begin = at;
        if (n() != 1) {
            throw wrong(begin);
        }
        if (number == 4) {
            due(112);
            due(0);
            module.table = (int) n(120);
        } else {
            due(1);
            long atLeast = n();
            module.memory = new TwinModule.Memory(atLeast, n(16));
        }
    }

    private void elements() {
        int together = 0;
        for (long many = n(10); many > 0; many--) {
            due(0);
            due(65);
            long place = s();
            due(11);
            List<Long> functions = new ArrayList<>();
            for (long own = n(120 - together); own > 0; own--) {
                functions.add(n());
            }
            together += functions.size();
            module.elements.add(new TwinModule.Element(place, functions));
        }
    }

    private void code() {
        long size = n();
        int begin = at;
        int locals = 0;
        for (long many = n(); many > 0; many--) {
            locals += (int) n(500 - locals);
            due(127);
        }
        List<TwinModule.Op> ops = new ArrayList<>();
        for (int open = 1; open > 0;) {
            int code = oneByte();
            open += code >= 2 && code <= 4 ? 1 : code == 11 ? -1 : 0;
            // The function itself is open, too.
            if (ops.size() == 6000 || open > 31) {
                throw wrong(at - 1);
            }
            ops.add(op(code));
        }
        module.codes.add(new TwinModule.Code(locals, ops));
        if (at - begin != size) {
            throw wrong(at);
        }
    }

    private TwinModule.Op op(int code) {
        switch (code) {
            case 2: case 3: case 4:
                return new TwinModule.Op(code, due(64, 127));
            case 12: case 13: case 16: case 32: case 33: case 34:
                return new TwinModule.Op(code, n());
            case 17:
                long type = n();
                due(0);
                return new TwinModule.Op(code, type);
            case 40: case 54:
                due(2);
                return new TwinModule.Op(code, n());
            case 63: case 64:
                due(0);
                return new TwinModule.Op(code);
            case 65:
                return new TwinModule.Op(code, s());
            default:
                if (!PLAIN.contains(code)) {
                    throw wrong(at - 1);
                }
                return new TwinModule.Op(code);
        }
    }

    // Kind 2.

    private void hold(int section, boolean holds) {
        if (!holds) {
            throw new TwinText.Fault(2, section);
        }
    }

    private void holdTogether() {
        for (TwinModule.Import one : module.imports) {
            int host = TwinModule.HOST.indexOf(one.name());
            hold(2, host >= 0 && one.type() < module.types.size());
            hold(2, module.types.get((int) one.type()).equals(TwinModule.HOST_TYPES.get(host)));
        }
        for (long type : module.functions) {
            hold(3, type < module.types.size());
        }
        hold(5, module.memory == null || module.memory.atLeast() <= module.memory.atMost());
        Set<String> names = new HashSet<>();
        for (TwinModule.Export export : module.exports) {
            hold(7, export.function() < module.functionCount() && names.add(export.name()));
        }
        int entries = module.table == null ? 0 : module.table;
        for (TwinModule.Element element : module.elements) {
            hold(9, element.place() >= 0 && element.place() + element.functions().size() <= entries);
            for (long function : element.functions()) {
                hold(9, function < module.functionCount());
            }
        }
        hold(10, module.codes.size() == module.functions.size());
    }
}
