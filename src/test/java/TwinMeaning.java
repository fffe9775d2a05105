import java.util.ArrayList;
import java.util.List;

/** Section 4 anew: exps are worked out by a method that calls itself. */
final class TwinMeaning {
    static final int VALUE = 0;
    static final int DIVISION = 1;
    static final int BOUND = 2;

    /** What ends a working out without a value. */
    private static final class Stop extends RuntimeException {
        private static final long serialVersionUID = 1;
        final int how;

        Stop(int how) {
            super(null, null, false, false);
            this.how = how;
        }
    }

    /** A link of a list, or a pair; a list without links is null. */
    private record Cell(Object one, Object other) {
    }

    private record Known(TwinText.Name name, Object value, Known outside) {
    }

    private record Function(List<TwinText.Name> names, TwinText.Exp body, Known outside, List<Object> got) {
    }

    private int open;
    int begun;
    int most;
    int how;
    private Object value;

    static TwinMeaning of(TwinText.Definition definition, int... numbers) {
        TwinMeaning meaning = new TwinMeaning();
        try {
            List<Object> got = new ArrayList<>();
            for (int i = 0; i < definition.parameters.size(); i++) {
                got.add(numbers[i]);
            }
            meaning.value = meaning.carryOut(new Function(definition.parameters, definition.body, null, got));
        } catch (Stop stop) {
            meaning.how = stop.how;
        }
        return meaning;
    }

    private Object carryOut(Function function) {
        if (begun == 1000 || open == 50) {
            throw new Stop(BOUND);
        }
        begun++;
        open++;
        most = Math.max(most, open);
        Known known = function.outside;
        for (int i = 0; i < function.names.size(); i++) {
            known = new Known(function.names.get(i), function.got.get(i), known);
        }
        Object result = workOut(function.body, known);
        open--;
        return result;
    }

    private Object workOut(TwinText.Exp exp, Known known) {
        switch (exp.sort) {
            case NUMBER:
                return exp.number;
            case TRUTH:
                return exp.number == 1;
            case NAME:
                return exp.bound != null ? valueOf(exp.bound, known)
                    : begin(new Function(exp.definition.parameters, exp.definition.body, null, List.of()));
            case LIST:
                return list(exp, 0, known);
            case PAIR:
            case CELL:
                Object one = workOut(exp.part(0), known);
                return new Cell(one, workOut(exp.part(1), known));
            case USE:
                Object function = workOut(exp.part(0), known);
                for (TwinText.Exp atom : exp.parts.subList(1, exp.parts.size())) {
                    function = give((Function) function, workOut(atom, known));
                }
                return function;
            case OPERATION:
                int left = (Integer) workOut(exp.part(0), known);
                return operation(exp.sign, left, (Integer) workOut(exp.part(1), known));
            case LET:
                return workOut(exp.part(1), new Known(exp.names.get(0), workOut(exp.part(0), known), known));
            case IF:
                return workOut(exp.part((Boolean) workOut(exp.part(0), known) ? 1 : 2), known);
            case FUN:
                return new Function(exp.names, exp.part(0), known, List.of());
            default:
                return choose(exp, (Cell) workOut(exp.part(0), known), known);
        }
    }

    private static Object valueOf(TwinText.Name name, Known known) {
        return known.name == name ? known.value : valueOf(name, known.outside);
    }

    /** A function with all its parameters is carried out. */
    private Object begin(Function function) {
        return function.got.size() == function.names.size() ? carryOut(function) : function;
    }

    private Object give(Function function, Object one) {
        List<Object> got = new ArrayList<>(function.got);
        got.add(one);
        return begin(new Function(function.names, function.body, function.outside, got));
    }

    private Cell list(TwinText.Exp exp, int from, Known known) {
        if (from == exp.parts.size()) {
            return null;
        }
        Object one = workOut(exp.part(from), known);
        return new Cell(one, list(exp, from + 1, known));
    }

    private Object choose(TwinText.Exp exp, Cell looked, Known known) {
        if (looked == null) {
            return workOut(exp.part(1), known);
        }
        Known first = new Known(exp.names.get(0), looked.one, known);
        return workOut(exp.part(exp.parts.size() - 1), new Known(exp.names.get(1), looked.other, first));
    }

    private static Object operation(String sign, int left, int right) {
        if (right == 0 && (sign.equals("/") || sign.equals("%"))) {
            throw new Stop(DIVISION);
        }
        return operated(sign, left, right);
    }

    /** A number or a truth; not asked for divisions by 0. */
    static Object operated(String sign, long left, long right) {
        switch (sign) {
            case "+":
                return gone(left + right);
            case "-":
                return gone(left - right);
            case "*":
                return gone(left * right);
            case "/":
                return gone(left / right);
            case "%":
                return gone(left % right);
            case "<":
                return left < right;
            case "<=":
                return left <= right;
            default:
                return left == right;
        }
    }

    private static int gone(long number) {
        return (int) (Math.floorMod(number + (1L << 30), 1L << 31) - (1L << 30));
    }

    // Written values.

    String written(TwinTypes.Type type) {
        StringBuilder text = new StringBuilder();
        write(value, type.now(), text);
        return text.length() > 2000 ? text.substring(0, 2000) : text.toString();
    }

    private static void write(Object value, TwinTypes.Type type, StringBuilder text) {
        switch (type.sort) {
            case 't':
                text.append((Boolean) value ? "yes" : "no");
                break;
            case 'l':
                text.append("[");
                for (Cell link = (Cell) value; link != null; link = (Cell) link.other) {
                    text.append(link == value ? "" : ", ");
                    write(link.one, type.one.now(), text);
                }
                text.append("]");
                break;
            case 'p':
                text.append("(");
                write(((Cell) value).one, type.one.now(), text);
                text.append(", ");
                write(((Cell) value).other, type.other.now(), text);
                text.append(")");
                break;
            case 'f':
                text.append("fun");
                break;
            default:
                text.append(value);
                break;
        }
    }
}
