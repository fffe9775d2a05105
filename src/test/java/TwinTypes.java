import java.util.ArrayList;
import java.util.HashMap;
import java.util.List;
import java.util.Map;

/** Section 3 anew: types are trees of objects, a variable holds what stands in its place. */
final class TwinTypes {
    /** A type: n num, t truth, l a list, p a pair, f a function, v a variable. */
    static final class Type {
        final char sort;
        final Type one;
        final Type other;
        private Type is;

        Type(char sort, Type one, Type other) {
            this.sort = sort;
            this.one = one;
            this.other = other;
        }

        Type now() {
            return is == null ? this : is.now();
        }
    }

    private static final Type NUM = new Type('n', null, null);
    private static final Type TRUTH = new Type('t', null, null);
    private final Map<TwinText.Name, Type> given = new HashMap<>();
    private final TwinText.Definition own;

    private TwinTypes(TwinText.Definition own) {
        this.own = own;
    }

    /** Finds the types of all definitions, or throws a fault of kind 3. */
    static void findAll(List<TwinText.Definition> all) {
        for (TwinText.Definition one : all) {
            new TwinTypes(one).findOwn();
        }
    }

    private static Type variable() {
        return new Type('v', null, null);
    }

    private static Type list(Type one) {
        return new Type('l', one, null);
    }

    private static Type function(Type one, Type other) {
        return new Type('f', one, other);
    }

    private void findOwn() {
        Type r = variable();
        own.type = bind(own.parameters, r);
        make(find(own.body), r, own.body);
        if (parts(own.type) > 100) {
            throw new TwinText.Fault(3, own.body.first);
        }
    }

    /** New variables for names; the type of a function of these. */
    private Type bind(List<TwinText.Name> names, Type result) {
        for (TwinText.Name name : names) {
            given.put(name, variable());
        }
        return functionOf(names, result);
    }

    private Type functionOf(List<TwinText.Name> names, Type result) {
        Type whole = result;
        for (int i = names.size() - 1; i >= 0; i--) {
            whole = function(given.get(names.get(i)), whole);
        }
        return whole;
    }

    private static int parts(Type type) {
        Type now = type.now();
        int count = 1;
        if (now.one != null) {
            count += parts(now.one);
        }
        if (now.other != null && count <= 100) {
            count += parts(now.other);
        }
        return Math.min(count, 101);
    }

    private static boolean standsIn(Type variable, Type type) {
        Type now = type.now();
        return now == variable || now.one != null && standsIn(variable, now.one)
            || now.other != null && standsIn(variable, now.other);
    }

    private static boolean same(Type left, Type right) {
        Type a = left.now();
        Type b = right.now();
        if (a == b) {
            return true;
        }
        if (a.sort == 'v' || b.sort == 'v') {
            Type variable = a.sort == 'v' ? a : b;
            Type other = a.sort == 'v' ? b : a;
            if (standsIn(variable, other)) {
                return false;
            }
            variable.is = other;
            return true;
        }
        return a.sort == b.sort && (a.one == null || same(a.one, b.one)) && (a.other == null || same(a.other, b.other));
    }

    private static void make(Type one, Type other, TwinText.Exp at) {
        if (!same(one, other)) {
            throw new TwinText.Fault(3, at.first);
        }
    }

    private Type find(TwinText.Exp exp) {
        Type type = typeOf(exp);
        if (parts(type) > 100) {
            throw new TwinText.Fault(3, exp.first);
        }
        return type;
    }

    private Type typeOf(TwinText.Exp exp) {
        switch (exp.sort) {
            case NUMBER:
                return NUM;
            case TRUTH:
                return TRUTH;
            case NAME:
                return exp.bound != null ? given.get(exp.bound)
                    : exp.definition == own ? own.type : renewed(exp.definition.type, new HashMap<>());
            case LIST:
                return typeOfList(exp);
            case PAIR:
                Type one = find(exp.part(0));
                return new Type('p', one, find(exp.part(1)));
            case USE:
                return typeOfUse(exp);
            case OPERATION:
                make(find(exp.part(0)), NUM, exp.part(0));
                make(find(exp.part(1)), NUM, exp.part(1));
                return "<==".contains(exp.sign) ? TRUTH : NUM;
            case CELL:
                Type head = find(exp.part(0));
                Type rest = find(exp.part(1));
                make(rest, list(head), exp.part(1));
                return rest;
            case LET:
                given.put(exp.names.get(0), find(exp.part(0)));
                return find(exp.part(1));
            case IF:
                make(find(exp.part(0)), TRUTH, exp.part(0));
                return both(exp);
            case FUN:
                bind(exp.names, NUM);
                return functionOf(exp.names, find(exp.part(0)));
            default:
                return typeOfCase(exp);
        }
    }

    private static Type renewed(Type type, Map<Type, Type> variables) {
        Type now = type.now();
        if (now.sort == 'v') {
            return variables.computeIfAbsent(now, v -> variable());
        }
        return new Type(now.sort, now.one == null ? null : renewed(now.one, variables),
            now.other == null ? null : renewed(now.other, variables));
    }

    private Type typeOfList(TwinText.Exp exp) {
        Type inner = variable();
        for (TwinText.Exp part : exp.parts) {
            make(find(part), inner, part);
        }
        return list(inner);
    }

    private Type typeOfUse(TwinText.Exp exp) {
        Type type = find(exp.part(0));
        for (TwinText.Exp atom : exp.parts.subList(1, exp.parts.size())) {
            Type argument = find(atom);
            Type result = variable();
            make(type, function(argument, result), atom);
            type = result;
        }
        return type;
    }

    private Type both(TwinText.Exp exp) {
        Type ahead = find(exp.part(1));
        Type behind = find(exp.part(2));
        make(behind, ahead, exp.part(2));
        return behind;
    }

    private Type typeOfCase(TwinText.Exp exp) {
        Type looked = find(exp.part(0));
        Type one = variable();
        boolean isPair = exp.sort == TwinText.Sort.CASE_PAIR;
        Type other = isPair ? variable() : list(one);
        make(looked, isPair ? new Type('p', one, other) : other, exp.part(0));
        given.put(exp.names.get(0), one);
        given.put(exp.names.get(1), other);
        return isPair ? find(exp.part(1)) : both(exp);
    }

    // What is asked about types.

    /** The type of the value of a definition that has got its parameters. */
    static Type result(TwinText.Definition definition) {
        Type type = definition.type.now();
        for (int i = 0; i < definition.parameters.size(); i++) {
            type = type.other.now();
        }
        return type;
    }

    static boolean canBeAsked(TwinText.Definition definition) {
        Type type = definition.type.now();
        for (int i = 0; i < definition.parameters.size(); i++) {
            char sort = type.one.now().sort;
            if (sort != 'n' && sort != 'v') {
                return false;
            }
            type = type.other.now();
        }
        return definition.parameters.size() <= 3;
    }

    static String written(Type type) {
        return written(type, new ArrayList<>());
    }

    private static String written(Type type, List<Type> letters) {
        Type now = type.now();
        switch (now.sort) {
            case 'n':
                return "num";
            case 't':
                return "truth";
            case 'l':
                return "[" + written(now.one, letters) + "]";
            case 'p':
                return "(" + written(now.one, letters) + ", " + written(now.other, letters) + ")";
            case 'f':
                String left = written(now.one, letters);
                return (now.one.now().sort == 'f' ? "(" + left + ")" : left) + " -> " + written(now.other, letters);
            default:
                if (!letters.contains(now)) {
                    letters.add(now);
                }
                int which = letters.indexOf(now);
                return (char) ('a' + which % 26) + (which < 26 ? "" : "" + which / 26);
        }
    }
}
