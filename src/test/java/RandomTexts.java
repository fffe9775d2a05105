import java.util.ArrayList;
import java.util.List;
import java.util.Random;

/** Texts of programs that have no fault, put together by chance from a seed: each exp is made for a type. */
final class RandomTexts {
    private static final int EXP = 0;
    private static final int TEST = 1;
    private static final int CELL = 2;
    private static final int SUM = 3;
    private static final int TERM = 4;
    private static final int USE = 5;
    private static final int ATOM = 6;

    /** A type; the kinds are n num, t truth, l list of one, p pair, f function from one to other. */
    private record Type(char kind, Type one, Type other) {
        static final Type NUM = new Type('n', null, null);
        static final Type TRUTH = new Type('t', null, null);
    }

    /** What a name stands for; a definition has parameters. */
    private record Known(String name, Type type) {
    }

    private final Random random;
    private final List<Known> known = new ArrayList<>();
    private final StringBuilder text = new StringBuilder();
    private int names;
    private String recursion = "";
    private Type recursionType = Type.NUM;

    RandomTexts(long seed) {
        random = new Random(seed);
    }

    private boolean oneOf(int many) {
        return random.nextInt(many) == 0;
    }

    private String newName() {
        names++;
        // No d and no p: these are for definitions and parameters, which stay in sight so.
        return "" + "abceghijklmn".charAt(names % 12) + (oneOf(3) ? "" : "" + names);
    }

    private Type type(int depth) {
        switch (depth <= 0 ? random.nextInt(4) : random.nextInt(9)) {
            case 4: case 5:
                return new Type('l', type(depth - 1), null);
            case 6:
                return new Type('p', type(depth - 1), type(depth - 1));
            case 7: case 8:
                return new Type('f', type(depth - 1), type(depth - 1));
            case 3:
                return Type.TRUTH;
            default:
                return Type.NUM;
        }
    }

    /** A text of some definitions; the last one can be asked. */
    String text() {
        int many = 1 + random.nextInt(4);
        for (int i = 0; i < many; i++) {
            definition(i, i == many - 1);
        }
        return text.toString();
    }

    private void definition(int which, boolean isLast) {
        String name = "d" + which;
        int parameters = isLast ? random.nextInt(4) : random.nextInt(5);
        Type result = type(2);
        Type whole = result;
        List<Known> own = new ArrayList<>();
        for (int i = parameters - 1; i >= 0; i--) {
            Type type = isLast || i == 0 && oneOf(2) ? Type.NUM : type(2);
            own.add(0, new Known("p" + i, type));
            whole = new Type('f', type, whole);
        }
        text.append("def ").append(name);
        for (Known parameter : own) {
            text.append(' ').append(parameter.name());
        }
        int before = known.size();
        known.addAll(own);
        text.append(oneOf(2) ? " = " : "=");
        boolean guarded = parameters > 0 && own.get(0).type() == Type.NUM && oneOf(2);
        if (guarded) {
            text.append("if p0 ").append(oneOf(2) ? "<" : "<=").append(" 0 then ").append(exp(EXP, result, 2));
            recursion = name;
            recursionType = whole;
            text.append(" else ").append(exp(EXP, result, 4));
            recursion = "";
        } else {
            text.append(exp(EXP, result, 4));
        }
        text.append(oneOf(2) ? ";" : " ;\n");
        while (known.size() > before) {
            known.remove(known.size() - 1);
        }
        known.add(new Known(name, whole));
    }

    private String exp(int at, Type type, int depth) {
        if (depth > 0 && !recursion.isEmpty() && oneOf(4)) {
            String use = recursiveUse(type, depth);
            if (use != null) {
                return closed(use, USE, at);
            }
        }
        if (depth > 0 && oneOf(3)) {
            return closed(choice(type, depth), EXP, at);
        }
        if (depth <= 0 || oneOf(3)) {
            String use = knownUse(type, depth);
            if (use != null) {
                return closed(use, use.indexOf(' ') < 0 ? ATOM : USE, at);
            }
        }
        return made(at, type, depth);
    }

    private static String closed(String exp, int is, int at) {
        return is < at ? "(" + exp + ")" : exp;
    }

    private String choice(Type type, int depth) {
        String name = newName();
        switch (random.nextInt(4)) {
            case 0:
                Type bound = type(2);
                String given = exp(EXP, bound, depth - 1);
                return "let " + name + " = " + given + " in " + within(type, depth - 1, new Known(name, bound));
            case 1:
                return "if " + exp(EXP, Type.TRUTH, depth - 1) + " then " + exp(EXP, type, depth - 1) + " else "
                    + exp(EXP, type, depth - 1);
            case 2:
                Type item = type(1);
                Type list = new Type('l', item, null);
                String other = newName() + "q";
                return "case " + exp(EXP, list, depth - 1) + " of [] -> " + exp(EXP, type, depth - 1) + " | " + name
                    + " : " + other + " -> " + within(type, depth - 1, new Known(name, item), new Known(other, list))
                    + " end";
            default:
                Type left = type(1);
                Type right = type(1);
                String second = newName() + "q";
                return "case " + exp(EXP, new Type('p', left, right), depth - 1) + " of (" + name + "," + second + ") -> "
                    + within(type, depth - 1, new Known(name, left), new Known(second, right)) + " end";
        }
    }

    private String within(Type type, int depth, Known... names) {
        for (Known name : names) {
            known.add(name);
        }
        String exp = exp(EXP, type, depth);
        for (int i = 0; i < names.length; i++) {
            known.remove(known.size() - 1);
        }
        return exp;
    }

    /** A name that is bound around, with as many atoms as it needs to be of a type; or null. */
    private String knownUse(Type type, int depth) {
        for (int tries = 0; tries < 6 && !known.isEmpty(); tries++) {
            Known one = known.get(random.nextInt(known.size()));
            if (isHidden(one)) {
                continue;
            }
            StringBuilder use = new StringBuilder(one.name());
            Type left = one.type();
            while (!left.equals(type) && left.kind() == 'f' && depth > 0) {
                use.append(' ').append(exp(ATOM, left.one(), depth - 2));
                left = left.other();
            }
            if (left.equals(type)) {
                return use.toString();
            }
        }
        return null;
    }

    private boolean isHidden(Known one) {
        for (int i = known.size() - 1; i >= 0; i--) {
            if (known.get(i).name().equals(one.name())) {
                return known.get(i) != one;
            }
        }
        return true;
    }

    private String recursiveUse(Type type, int depth) {
        StringBuilder use = new StringBuilder(recursion).append(" (p0 - 1)");
        Type left = recursionType.other();
        while (!left.equals(type) && left.kind() == 'f') {
            use.append(' ').append(exp(ATOM, left.one(), depth - 2));
            left = left.other();
        }
        return left.equals(type) ? use.toString() : null;
    }

    private String made(int at, Type type, int depth) {
        switch (type.kind()) {
            case 'n':
                return number(at, depth);
            case 't':
                return depth <= 0 || oneOf(4) ? oneOf(2) ? "yes" : "no"
                    : closed(exp(CELL, Type.NUM, depth - 1) + new String[] {" < ", "<=", " == "}[random.nextInt(3)]
                        + exp(CELL, Type.NUM, depth - 1), TEST, at);
            case 'l':
                return list(at, type, depth);
            case 'p':
                return "(" + exp(EXP, type.one(), depth - 1) + ", " + exp(EXP, type.other(), depth - 1) + ")";
            default:
                return closed(function(type, depth), EXP, at);
        }
    }

    private String number(int at, int depth) {
        if (depth <= 0 || oneOf(4)) {
            return oneOf(5) ? "999999999" : "" + random.nextInt(5);
        }
        int sign = random.nextInt(5);
        int is = sign < 2 ? SUM : TERM;
        return closed(exp(is, Type.NUM, depth - 1) + " " + "+-*/%".charAt(sign) + exp(is + 1, Type.NUM, depth - 1), is, at);
    }

    private String list(int at, Type type, int depth) {
        if (depth > 0 && oneOf(2)) {
            return closed(exp(SUM, type.one(), depth - 1) + " : " + exp(CELL, type, depth - 1), CELL, at);
        }
        StringBuilder list = new StringBuilder("[");
        int many = depth <= 0 ? 0 : random.nextInt(3);
        for (int i = 0; i < many; i++) {
            list.append(i == 0 ? "" : ", ").append(exp(EXP, type.one(), depth - 1));
        }
        return list.append("]").toString();
    }

    private String function(Type type, int depth) {
        List<Known> names = new ArrayList<>();
        Type left = type;
        do {
            names.add(new Known(newName() + "z", left.one()));
            left = left.other();
        } while (left.kind() == 'f' && oneOf(2) && names.size() < 4);
        StringBuilder fun = new StringBuilder("fun");
        for (int i = 0; i < names.size(); i++) {
            for (int k = 0; k < i; k++) {
                if (names.get(k).name().equals(names.get(i).name())) {
                    names.set(i, new Known("z" + i, names.get(i).type()));
                }
            }
            fun.append(' ').append(names.get(i).name());
        }
        return fun.append(" -> ").append(within(left, depth - 1, names.toArray(new Known[0]))).toString();
    }
}
