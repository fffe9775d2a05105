import java.util.ArrayList;
import java.util.List;

/** Puts the bytes of modules together, for tests that read them. */
final class Bytes {
    private final List<Integer> all = new ArrayList<>();

    static int[] of(int... bytes) {
        return bytes;
    }

    static int[] join(int[]... rows) {
        Bytes bytes = new Bytes();
        for (int[] row : rows) {
            bytes.add(row);
        }
        return bytes.array();
    }

    private void add(int... bytes) {
        for (int b : bytes) {
            all.add(b);
        }
    }

    private int[] array() {
        int[] array = new int[all.size()];
        for (int i = 0; i < array.length; i++) {
            array[i] = all.get(i);
        }
        return array;
    }

    /** A number without a sign. */
    static int[] n(long number) {
        Bytes bytes = new Bytes();
        long rest = number;
        while (rest > 127) {
            bytes.add((int) (rest & 127) + 128);
            rest >>= 7;
        }
        bytes.add((int) rest);
        return bytes.array();
    }

    /** const with its number. */
    static int[] word(int number) {
        Bytes bytes = new Bytes();
        bytes.add(65);
        int rest = number;
        while (rest < -64 || rest > 63) {
            bytes.add((rest & 127) + 128);
            rest >>= 7;
        }
        bytes.add(rest & 127);
        return bytes.array();
    }

    static int[] repeat(int times, int... bytes) {
        Bytes all = new Bytes();
        for (int i = 0; i < times; i++) {
            all.add(bytes);
        }
        return all.array();
    }

    static int[] row(int[]... things) {
        return join(n(things.length), join(things));
    }

    static int[] sized(int[] bytes) {
        return join(n(bytes.length), bytes);
    }

    static int[] section(int number, int[] content) {
        return join(of(number), sized(content));
    }

    static int[] head() {
        return of(0, 97, 115, 109, 1, 0, 0, 0);
    }

    static int[] module(int[]... sections) {
        return join(head(), join(sections));
    }

    /** A type of so many parameters, with a value or without. */
    static int[] type(int parameters, int values) {
        return join(of(96), n(parameters), repeat(parameters, 127), n(values), repeat(values, 127));
    }

    static int[] name(String name) {
        return join(n(name.length()), name.chars().toArray());
    }

    static int[] imported(String name, int type) {
        return join(name("h"), name(name), of(0), n(type));
    }

    static int[] exported(String name, int function) {
        return join(name(name), of(0), n(function));
    }

    /** The code of a function: its locals, and its instructions without the last end. */
    static int[] code(int locals, int[]... instructions) {
        return sized(join(locals == 0 ? of(0) : join(of(1), n(locals), of(127)), join(instructions), of(11)));
    }

    static int[] memory(int least, int most) {
        return section(5, join(of(1, 1), n(least), n(most)));
    }

    static int[] table(int entries) {
        return section(4, join(of(1, 112, 0), n(entries)));
    }

    static int[] element(int place, int... functions) {
        int[][] row = new int[functions.length][];
        for (int i = 0; i < functions.length; i++) {
            row[i] = n(functions[i]);
        }
        return join(of(0), word(place), of(11), row(row));
    }

    /** One instruction in words: its name, and what stands with it ("const 5", "load 8", "if 127"). */
    private static int[] instruction(String words) {
        String[] parts = words.trim().split(" +");
        int code = Kit.codeOf(parts[0]);
        long with = parts.length > 1 ? Long.parseLong(parts[1]) : 0;
        switch (parts[0]) {
            case "block": case "loop": case "if":
                return of(code, (int) with);
            case "br": case "br_if": case "call": case "get": case "set": case "tee":
                return join(of(code), n(with));
            case "call_indirect":
                return join(of(code), n(with), of(0));
            case "load": case "store":
                return join(of(code, 2), n(with));
            case "size": case "grow":
                return of(code, 0);
            case "const":
                return word((int) with);
            default:
                return of(code);
        }
    }

    /** Instructions in words, with , between them. An @ is no part of them. */
    static int[] asm(String words) {
        Bytes bytes = new Bytes();
        for (String one : words.replace("@", "").split(",")) {
            if (!one.isBlank()) {
                bytes.add(instruction(one));
            }
        }
        return bytes.array();
    }
}
