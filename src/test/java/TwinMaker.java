import java.util.ArrayList;
import java.util.Comparator;
import java.util.HashMap;
import java.util.List;
import java.util.Map;
import java.util.Set;
import java.util.TreeMap;
import java.util.TreeSet;

/** Section 5 anew: makes a module of definitions; the sets N and the names of exps are sets here. */
final class TwinMaker {
    /** A function of the module: of a definition, or of a fun in one (then the definition is null). */
    private static final class Function {
        TwinText.Definition definition;
        int place;
        TwinText.Exp body;
        final List<TwinText.Name> caught = new ArrayList<>();
        final List<TwinText.Name> own = new ArrayList<>();
        /** By the place of a token: the number of its local. */
        final Map<Integer, Integer> locals = new HashMap<>();
        int number;
        int wrapper = -1;
        boolean loops;

        int parameters() {
            return caught.size() + own.size();
        }
    }

    private final int level;
    private final List<Function> functions = new ArrayList<>();
    /** By the place of the name of a definition, or the token of a fun. */
    private final Map<Integer, Function> byPlace = new HashMap<>();
    private final TwinModule module = new TwinModule();
    private List<TwinModule.Op> code = new ArrayList<>();
    private Function at;
    private int ifs;

    private TwinMaker(int level) {
        this.level = level;
    }

    static TwinModule make(List<TwinText.Definition> definitions, int level) {
        TwinMaker maker = new TwinMaker(level);
        definitions.forEach(maker::addFunctions);
        maker.numberFunctions();
        maker.putFrame(definitions);
        maker.putCodes();
        maker.module.made = definitions;
        return maker.module;
    }

    // Level 1: exps are put together anew.

    private static TwinText.Exp folded(TwinText.Exp exp) {
        List<TwinText.Exp> parts = new ArrayList<>();
        exp.parts.forEach(part -> parts.add(folded(part)));
        if (exp.sort == TwinText.Sort.IF && parts.get(0).sort == TwinText.Sort.TRUTH) {
            return parts.get(parts.get(0).number == 1 ? 1 : 2);
        }
        boolean ofNumbers = exp.sort == TwinText.Sort.OPERATION
            && parts.stream().allMatch(part -> part.sort == TwinText.Sort.NUMBER);
        if (ofNumbers && (parts.get(1).number != 0 || !"/%".contains(exp.sign))) {
            Object value = TwinMeaning.operated(exp.sign, parts.get(0).number, parts.get(1).number);
            boolean isNumber = value instanceof Integer;
            TwinText.Exp one = new TwinText.Exp(isNumber ? TwinText.Sort.NUMBER : TwinText.Sort.TRUTH, exp.place);
            one.number = isNumber ? (Integer) value : (Boolean) value ? 1 : 0;
            return one;
        }
        return exp.of(parts);
    }

    // Functions, names, locals.

    /** The names of an exp: those that stand in it but are bound outside. */
    private static Set<TwinText.Name> names(TwinText.Exp exp) {
        Set<TwinText.Name> all = new TreeSet<>();
        if (exp.bound != null) {
            all.add(exp.bound);
        }
        for (TwinText.Exp part : exp.parts) {
            all.addAll(names(part));
        }
        all.removeAll(exp.names);
        return all;
    }

    private static Set<TwinText.Name> union(Set<TwinText.Name> one, Set<TwinText.Name> other) {
        Set<TwinText.Name> both = new TreeSet<>(one);
        both.addAll(other);
        return both;
    }

    private void addFunctions(TwinText.Definition definition) {
        Function function = new Function();
        function.definition = definition;
        function.place = definition.name.place;
        function.body = level == 1 ? folded(definition.body) : definition.body;
        function.own.addAll(definition.parameters);
        TreeMap<Integer, Function> all = new TreeMap<>();
        numberLocals(function, all);
        functions.addAll(all.values());
        byPlace.putAll(all);
    }

    /** Numbers the locals of a function, and then those of the funs that stand in it. */
    private void numberLocals(Function function, Map<Integer, Function> all) {
        all.put(function.place, function);
        for (TwinText.Name name : function.caught) {
            function.locals.put(name.place, function.locals.size());
        }
        for (TwinText.Name name : function.own) {
            function.locals.put(name.place, function.locals.size());
        }
        TreeSet<Integer> tokens = new TreeSet<>();
        List<TwinText.Exp> funs = new ArrayList<>();
        gather(function.body, 0, tokens, funs);
        for (int token : tokens) {
            function.locals.put(token, function.locals.size());
        }
        for (TwinText.Exp fun : funs) {
            Function inner = new Function();
            inner.place = fun.place;
            inner.body = fun.part(0);
            inner.own.addAll(fun.names);
            inner.caught.addAll(names(fun));
            inner.caught.sort(Comparator.comparing(name -> function.locals.get(name.place)));
            numberLocals(inner, all);
        }
    }

    /** The tokens of an exp that get a local, and the funs in it; an exp has so many atoms behind it in its use. */
    private static void gather(TwinText.Exp exp, int behind, Set<Integer> tokens, List<TwinText.Exp> funs) {
        if (exp.sort == TwinText.Sort.FUN) {
            tokens.add(exp.place);
            funs.add(exp);
            return;
        }
        if (exp.definition != null && behind < exp.definition.parameters.size()) {
            tokens.add(exp.place);
        }
        if (exp.sort == TwinText.Sort.CASE_LIST || exp.sort == TwinText.Sort.CASE_PAIR) {
            tokens.add(exp.place);
        }
        for (TwinText.Name name : exp.names) {
            if (names(lastPart(exp)).contains(name)) {
                tokens.add(name.place);
            }
        }
        for (int i = 0; i < exp.parts.size(); i++) {
            boolean isUsed = exp.sort == TwinText.Sort.USE && i == 0;
            gather(exp.part(i), isUsed ? exp.parts.size() - 1 : 0, tokens, funs);
        }
    }

    private static TwinText.Exp lastPart(TwinText.Exp exp) {
        return exp.part(exp.parts.size() - 1);
    }

    private void numberFunctions() {
        int wrappers = 0;
        for (int i = 0; i < functions.size(); i++) {
            functions.get(i).number = 6 + i;
            if (functions.get(i).parameters() > 0) {
                functions.get(i).wrapper = wrappers++;
            }
        }
    }

    // The module.

    private void putFrame(List<TwinText.Definition> definitions) {
        int most = functions.stream().mapToInt(Function::parameters).reduce(2, Math::max);
        for (int k = 0; k <= most; k++) {
            module.types.add(new TwinModule.Type(k, true));
        }
        module.types.add(new TwinModule.Type(1, false));
        int[] types = {1, most + 1, 2, 2, 1};
        List<Long> wrappers = new ArrayList<>();
        for (int i = 0; i < 5; i++) {
            module.imports.add(new TwinModule.Import(TwinModule.HOST.get(i), types[i]));
        }
        for (Function function : functions) {
            if (function.wrapper >= 0) {
                wrappers.add(6L + functions.size() + function.wrapper);
            }
        }
        module.table = wrappers.size();
        module.elements.add(new TwinModule.Element(0, wrappers));
        module.memory = new TwinModule.Memory(1, 8);
        for (TwinText.Definition definition : definitions) {
            Function function = byPlace.get(definition.name.place);
            module.exports.add(new TwinModule.Export(definition.name.text, function.number));
        }
    }

    private void putCodes() {
        String apply = "get 0 load 12 const 3 eq if get 0 get 1 get 0 load 8 const 1 shr_u call_indirect 2 else "
            + "get 0 load 4 const 2 shr_u tee 3 const 1 add call 4 set 2 get 2 get 3 const 2 shl add get 1 store 8 "
            + "loop 64 get 3 const 1 sub set 3 get 2 get 3 const 2 shl add get 0 get 3 const 2 shl add load 8 call 0 "
            + "store 8 get 3 br_if 0 end get 2 get 0 load 12 const 2 sub store 12 get 0 call 1 get 2 end end";
        put(apply);
        close(2, 2);
        for (Function function : functions) {
            at = function;
            putFunction();
            close(function.parameters(), function.locals.size() - function.parameters());
        }
        for (Function function : functions) {
            if (function.wrapper >= 0) {
                for (int i = 0; i < function.parameters() - 1; i++) {
                    put("get 0 load", 16 + 4 * i);
                    put("call 0");
                }
                put("get 0 call 1 get 1 call", function.number);
                put("end");
                close(2, 0);
            }
        }
    }

    private void close(long type, int locals) {
        module.functions.add(type);
        module.codes.add(new TwinModule.Code(locals, code));
        code = new ArrayList<>();
    }

    /** Instructions in words; the last one can have its number apart. */
    private void put(String words, int last) {
        put(words + " " + last);
    }

    private void put(String words) {
        String[] parts = words.split(" ");
        for (int i = 0; i < parts.length; i++) {
            int op = Kit.codeOf(parts[i]);
            boolean isFollowed = i + 1 < parts.length && parts[i + 1].matches("-?[0-9]+");
            code.add(new TwinModule.Op(op, isFollowed ? Long.parseLong(parts[++i]) : op == 4 ? 127 : -1));
        }
    }

    // The code of a function.

    private boolean endsInItself(TwinText.Exp exp) {
        switch (exp.sort) {
            case LET: case CASE_PAIR:
                return endsInItself(exp.part(1));
            case IF: case CASE_LIST:
                return endsInItself(exp.part(1)) || endsInItself(exp.part(2));
            default:
                return isOwnUse(exp);
        }
    }

    private boolean isOwnUse(TwinText.Exp exp) {
        return exp.sort == TwinText.Sort.USE && exp.part(0).definition != null && exp.part(0).definition == at.definition
            && exp.parts.size() - 1 == at.definition.parameters.size();
    }

    private void putFunction() {
        at.loops = level == 1 && endsInItself(at.body);
        ifs = 0;
        if (at.loops) {
            put("loop 127");
        }
        Set<TwinText.Name> used = names(at.body);
        for (TwinText.Name name : at.own) {
            if (!used.contains(name)) {
                put("get", local(name));
                put("call 1");
            }
        }
        put(at.body, Set.of(), true);
        put(at.loops ? "end end" : "end");
    }

    private int local(TwinText.Name name) {
        return at.locals.get(name.place);
    }

    private void put(TwinText.Exp exp, Set<TwinText.Name> needed, boolean isLast) {
        switch (exp.sort) {
            case NUMBER:
                put("const", 2 * exp.number + 1);
                break;
            case TRUTH:
                put("const", exp.number == 1 ? 3 : 1);
                break;
            case NAME:
                if (exp.bound != null) {
                    putLocal(exp.bound, needed);
                } else {
                    putUse(List.of(exp), needed, false);
                }
                break;
            case USE:
                putUse(exp.parts, needed, isLast && at.loops && isOwnUse(exp));
                break;
            case OPERATION:
                putOperation(exp, needed);
                break;
            case LIST:
                putAll(exp.parts, needed);
                put("const 2");
                exp.parts.forEach(part -> put("call 2"));
                break;
            case CELL: case PAIR:
                putAll(exp.parts, needed);
                put(exp.sort == TwinText.Sort.PAIR ? "call 3" : "call 2");
                break;
            case FUN:
                putFun(exp, needed);
                break;
            default:
                putBinding(exp, needed, isLast);
                break;
        }
    }

    private void putLocal(TwinText.Name name, Set<TwinText.Name> needed) {
        put("get", local(name));
        if (needed.contains(name)) {
            put("call 0");
        }
    }

    /** What is needed behind one of several parts. */
    private static Set<TwinText.Name> behind(List<TwinText.Exp> parts, int which, Set<TwinText.Name> needed) {
        Set<TwinText.Name> all = new TreeSet<>(needed);
        for (TwinText.Exp part : parts.subList(which + 1, parts.size())) {
            all.addAll(names(part));
        }
        return all;
    }

    private void putAll(List<TwinText.Exp> parts, Set<TwinText.Name> needed) {
        for (int i = 0; i < parts.size(); i++) {
            put(parts.get(i), behind(parts, i, needed), false);
        }
    }

    private void putUse(List<TwinText.Exp> parts, Set<TwinText.Name> needed, boolean goesBack) {
        TwinText.Definition definition = parts.get(0).definition;
        int many = definition == null ? 0 : definition.parameters.size();
        if (parts.size() - 1 < many) {
            Function called = byPlace.get(definition.name.place);
            int hidden = at.locals.get(parts.get(0).place);
            putRoom(hidden, called.wrapper, many, parts.size() - 1);
            for (int i = 1; i < parts.size(); i++) {
                put("get", hidden);
                put(parts.get(i), behind(parts, i, needed), false);
                put("store", 12 + 4 * i);
            }
            put("get", hidden);
            return;
        }
        for (int i = 0; i < parts.size(); i++) {
            if (i > 0 || definition == null) {
                put(parts.get(i), behind(parts, i, needed), false);
            }
            if (i > many) {
                put("call 5");
            }
            if (i == many && definition != null) {
                putCall(definition, goesBack);
            }
        }
    }

    private void putCall(TwinText.Definition definition, boolean goesBack) {
        if (!goesBack) {
            put("call", byPlace.get(definition.name.place).number);
            return;
        }
        for (int i = definition.parameters.size() - 1; i >= 0; i--) {
            put("set", local(definition.parameters.get(i)));
        }
        put("br", ifs);
    }

    private void putRoom(int hidden, int wrapper, int many, int values) {
        put("const", 2 + values);
        put("call 4 set", hidden);
        put("get", hidden);
        put("const", 2 * wrapper + 1);
        put("store 8 get", hidden);
        put("const", 2 * (many - values) + 1);
        put("store 12");
    }

    private void putFun(TwinText.Exp exp, Set<TwinText.Name> needed) {
        Function fun = byPlace.get(exp.place);
        int hidden = at.locals.get(exp.place);
        putRoom(hidden, fun.wrapper, fun.parameters(), fun.caught.size());
        for (int i = 0; i < fun.caught.size(); i++) {
            put("get", hidden);
            putLocal(fun.caught.get(i), needed);
            put("store", 16 + 4 * i);
        }
        put("get", hidden);
    }

    private void putOperation(TwinText.Exp exp, Set<TwinText.Name> needed) {
        Map<String, String[]> codes = Map.of(
            "+", new String[] {"", "add const 1 sub"},
            "-", new String[] {"", "sub const 1 add"},
            "*", new String[] {"const 1 sub", "const 1 shr_s mul const 1 add"},
            "/", new String[] {"const 1 shr_s", "const 1 shr_s div_s const 1 shl const 1 add"},
            "%", new String[] {"const 1 shr_s", "const 1 shr_s rem_s const 1 shl const 1 add"},
            "<", new String[] {"", "lt_s const 1 shl const 1 add"},
            "<=", new String[] {"", "le_s const 1 shl const 1 add"},
            "==", new String[] {"", "eq const 1 shl const 1 add"});
        String[] both = codes.get(exp.sign);
        put(exp.part(0), behind(exp.parts, 0, needed), false);
        if (!both[0].isEmpty()) {
            put(both[0]);
        }
        put(exp.part(1), needed, false);
        put(both[1]);
    }

    /** The names of one of the last parts of an exp, without those that are bound by the exp. */
    private static Set<TwinText.Name> namesOf(TwinText.Exp exp, int part) {
        Set<TwinText.Name> all = names(exp.part(part));
        if (part == exp.parts.size() - 1) {
            all.removeAll(exp.names);
        }
        return all;
    }

    /** let, if, case. */
    private void putBinding(TwinText.Exp exp, Set<TwinText.Name> needed, boolean isLast) {
        Set<TwinText.Name> looked = needed;
        for (int i = 1; i < exp.parts.size(); i++) {
            looked = union(looked, namesOf(exp, i));
        }
        put(exp.part(0), looked, false);
        if (exp.sort == TwinText.Sort.LET) {
            TwinText.Name name = exp.names.get(0);
            if (names(exp.part(1)).contains(name)) {
                put("set", local(name));
            } else {
                put("call 1");
            }
            put(exp.part(1), needed, isLast);
        } else if (exp.sort == TwinText.Sort.CASE_PAIR) {
            put("set", at.locals.get(exp.place));
            putFields(exp);
            put(exp.part(1), needed, isLast);
        } else {
            putBranches(exp, needed, isLast);
        }
    }

    private void putBranches(TwinText.Exp exp, Set<TwinText.Name> needed, boolean isLast) {
        boolean isCase = exp.sort == TwinText.Sort.CASE_LIST;
        if (isCase) {
            put("tee", at.locals.get(exp.place));
        }
        put(isCase ? "const 2 eq if" : "const 2 and if");
        ifs++;
        putDrops(namesOf(exp, 2), union(namesOf(exp, 1), needed));
        put(exp.part(1), needed, isLast);
        put("else");
        putDrops(namesOf(exp, 1), union(namesOf(exp, 2), needed));
        if (isCase) {
            putFields(exp);
        }
        put(exp.part(2), needed, isLast);
        ifs--;
        put("end");
    }

    private void putDrops(Set<TwinText.Name> other, Set<TwinText.Name> kept) {
        Set<Integer> dropped = new TreeSet<>();
        for (TwinText.Name name : other) {
            if (!kept.contains(name)) {
                dropped.add(local(name));
            }
        }
        for (int number : dropped) {
            put("get", number);
            put("call 1");
        }
    }

    private void putFields(TwinText.Exp exp) {
        int hidden = at.locals.get(exp.place);
        Set<TwinText.Name> used = names(lastPart(exp));
        for (int i = 0; i < 2; i++) {
            if (used.contains(exp.names.get(i))) {
                put("get", hidden);
                put("load " + (8 + 4 * i) + " call 0 set", local(exp.names.get(i)));
            }
        }
        put("get", hidden);
        put("call 1");
    }
}
