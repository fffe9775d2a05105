import java.util.ArrayList;
import java.util.HashMap;
import java.util.HashSet;
import java.util.List;
import java.util.Map;
import java.util.Set;
import java.util.TreeSet;
import java.util.regex.Matcher;
import java.util.regex.Pattern;

/** Section 2 anew: a text becomes definitions, or a fault of kind 1 or 2 is thrown. */
final class TwinText {
    /** A fault of a text or of bytes. */
    static final class Fault extends RuntimeException {
        private static final long serialVersionUID = 1;
        final int kind;
        final int place;

        Fault(int kind, int place) {
            this.kind = kind;
            this.place = place;
        }
    }

    enum Sort { NUMBER, TRUTH, NAME, LIST, PAIR, USE, OPERATION, CELL, LET, IF, FUN, CASE_LIST, CASE_PAIR }

    /** A name that is bound: a parameter, or one of a let, a fun or a branch. */
    static final class Name implements Comparable<Name> {
        final String text;
        final int place;

        Name(Token token) {
            text = token.text;
            place = token.place;
        }

        @Override
        public int compareTo(Name other) {
            return Integer.compare(place, other.place);
        }
    }

    /** An exp: where it begins (with its outermost bracket), the place of its own token, and what it is of. */
    static final class Exp {
        final Sort sort;
        final int place;
        int first;
        final List<Exp> parts = new ArrayList<>();
        final List<Name> names = new ArrayList<>();
        String sign = "";
        int number;
        /** Of a name: what it names, one of these two. */
        Name bound;
        Definition definition;

        Exp(Sort sort, int place) {
            this.sort = sort;
            this.place = place;
            first = place;
        }

        Exp with(Exp... more) {
            parts.addAll(List.of(more));
            return this;
        }

        Exp part(int which) {
            return parts.get(which);
        }

        /** The same exp of other parts. */
        Exp of(List<Exp> others) {
            Exp exp = new Exp(sort, place);
            exp.first = first;
            exp.parts.addAll(others);
            exp.names.addAll(names);
            exp.sign = sign;
            exp.number = number;
            exp.bound = bound;
            exp.definition = definition;
            return exp;
        }
    }

    static final class Definition {
        final Name name;
        final List<Name> parameters = new ArrayList<>();
        int number;
        Exp body;
        TwinTypes.Type type;

        Definition(Name name) {
            this.name = name;
        }
    }

    private static final class Token {
        final String text;
        final int place;
        /** n a name, w a word that is no name, d digits, s a sign, x what is no token, e the end. */
        final char sort;

        Token(String text, int place, char sort) {
            this.text = text;
            this.place = place;
            this.sort = sort;
        }
    }

    private static final Pattern TOKENS = Pattern.compile(
        "[ \\n]+|([a-z][a-z0-9]*)|([0-9]+)|(->|<=|==|[-=;()\\[\\],:|+*/%<])|(.)", Pattern.DOTALL);
    private static final Set<String> WORDS = Set.of("def", "let", "in", "if", "then", "else", "fun", "case", "of", "end",
        "yes", "no");
    private final List<Token> tokens = new ArrayList<>();
    private int next;
    private int open;
    private final TreeSet<Integer> wrongNames = new TreeSet<>();

    private TwinText(String text) {
        Matcher matcher = TOKENS.matcher(text);
        while (matcher.find()) {
            String found = matcher.group();
            char sort = matcher.group(1) != null ? found.length() > 6 ? 'x' : WORDS.contains(found) ? 'w' : 'n'
                : matcher.group(2) != null ? found.length() > 9 ? 'x' : 'd'
                : matcher.group(3) != null ? 's' : matcher.group(4) != null ? 'x' : ' ';
            if (sort != ' ') {
                tokens.add(new Token(found, matcher.start(), sort));
            }
        }
        tokens.add(new Token("", text.length(), 'e'));
    }

    static List<Definition> read(String text) {
        TwinText reader = new TwinText(text);
        List<Definition> all = reader.definitions();
        reader.bindAll(all);
        if (!reader.wrongNames.isEmpty()) {
            throw new Fault(2, reader.wrongNames.first());
        }
        return all;
    }

    // The grammar.

    private Token here() {
        return tokens.get(next);
    }

    private boolean stands(String text) {
        return here().text.equals(text) && here().sort != 'x' && here().sort != 'e';
    }

    private Fault cannotStand() {
        return new Fault(1, here().place);
    }

    private Token take(String text) {
        if (!stands(text)) {
            throw cannotStand();
        }
        return tokens.get(next++);
    }

    private Name takeName() {
        if (here().sort != 'n') {
            throw cannotStand();
        }
        return new Name(tokens.get(next++));
    }

    /** Takes what opens something that ends with close(). */
    private Token takeOpening(String text) {
        if (open == 10) {
            throw cannotStand();
        }
        open++;
        return take(text);
    }

    private List<Definition> definitions() {
        List<Definition> all = new ArrayList<>();
        while (here().sort != 'e') {
            if (all.size() == 12) {
                throw cannotStand();
            }
            take("def");
            Definition one = new Definition(takeName());
            one.number = all.size();
            while (here().sort == 'n' && one.parameters.size() < 4) {
                one.parameters.add(takeName());
            }
            take("=");
            one.body = exp();
            take(";");
            all.add(one);
        }
        return all;
    }

    private Exp exp() {
        if (stands("let")) {
            return let();
        }
        if (stands("if")) {
            return choice();
        }
        if (stands("fun")) {
            return fun();
        }
        return stands("case") ? branches() : test();
    }

    private Exp let() {
        Exp let = new Exp(Sort.LET, takeOpening("let").place);
        let.names.add(takeName());
        take("=");
        let.with(exp());
        take("in");
        let.with(exp());
        open--;
        return let;
    }

    private Exp choice() {
        Exp choice = new Exp(Sort.IF, takeOpening("if").place);
        choice.with(exp());
        take("then");
        choice.with(exp());
        take("else");
        choice.with(exp());
        open--;
        return choice;
    }

    private Exp fun() {
        Exp fun = new Exp(Sort.FUN, takeOpening("fun").place);
        fun.names.add(takeName());
        while (here().sort == 'n' && fun.names.size() < 4) {
            fun.names.add(takeName());
        }
        take("->");
        fun.with(exp());
        open--;
        return fun;
    }

    private Exp branches() {
        int place = takeOpening("case").place;
        Exp looked = exp();
        take("of");
        boolean isPair = stands("(");
        Exp whole = new Exp(isPair ? Sort.CASE_PAIR : Sort.CASE_LIST, place).with(looked);
        if (isPair) {
            take("(");
            whole.names.add(takeName());
            take(",");
            whole.names.add(takeName());
            take(")");
        } else {
            take("[");
            take("]");
            take("->");
            whole.with(exp());
            take("|");
            whole.names.add(takeName());
            take(":");
            whole.names.add(takeName());
        }
        take("->");
        whole.with(exp());
        take("end");
        open--;
        return whole;
    }

    private boolean standsOneOf(String... signs) {
        for (String sign : signs) {
            if (stands(sign)) {
                return true;
            }
        }
        return false;
    }

    private Exp joined(Sort sort, Exp left, Token sign, Exp right) {
        Exp whole = new Exp(sort, sign.place).with(left, right);
        whole.first = left.first;
        whole.sign = sign.text;
        return whole;
    }

    private Exp test() {
        Exp left = cell();
        if (!standsOneOf("<", "<=", "==")) {
            return left;
        }
        return joined(Sort.OPERATION, left, tokens.get(next++), cell());
    }

    private Exp cell() {
        Exp left = sum();
        return stands(":") ? joined(Sort.CELL, left, take(":"), cell()) : left;
    }

    private Exp sum() {
        Exp left = term();
        while (standsOneOf("+", "-")) {
            left = joined(Sort.OPERATION, left, tokens.get(next++), term());
        }
        return left;
    }

    private Exp term() {
        Exp left = use();
        while (standsOneOf("*", "/", "%")) {
            left = joined(Sort.OPERATION, left, tokens.get(next++), use());
        }
        return left;
    }

    private boolean standsAtom() {
        return here().sort == 'n' || here().sort == 'd' || standsOneOf("yes", "no", "[", "(");
    }

    private Exp use() {
        Exp first = atom();
        if (!standsAtom()) {
            return first;
        }
        Exp use = new Exp(Sort.USE, first.first).with(first);
        while (standsAtom()) {
            use.with(atom());
        }
        return use;
    }

    private Exp atom() {
        if (stands("[")) {
            return list();
        }
        if (stands("(")) {
            return bracket();
        }
        if (!standsAtom()) {
            throw cannotStand();
        }
        Token token = tokens.get(next++);
        Exp atom = new Exp(token.sort == 'd' ? Sort.NUMBER : token.sort == 'n' ? Sort.NAME : Sort.TRUTH, token.place);
        atom.sign = token.text;
        atom.number = token.sort == 'd' ? Integer.parseInt(token.text) : token.text.equals("yes") ? 1 : 0;
        return atom;
    }

    private Exp list() {
        Exp list = new Exp(Sort.LIST, takeOpening("[").place);
        if (!stands("]")) {
            list.with(exp());
            while (stands(",")) {
                take(",");
                list.with(exp());
            }
        }
        take("]");
        open--;
        return list;
    }

    private Exp bracket() {
        int place = takeOpening("(").place;
        Exp whole = exp();
        if (stands(",")) {
            take(",");
            whole = new Exp(Sort.PAIR, place).with(whole, exp());
        }
        take(")");
        open--;
        whole.first = place;
        return whole;
    }

    // What names stand for.

    private void bindAll(List<Definition> all) {
        Map<String, Definition> ahead = new HashMap<>();
        for (Definition one : all) {
            if (ahead.containsKey(one.name.text)) {
                wrongNames.add(one.name.place);
            }
            ahead.put(one.name.text, one);
            noteSeconds(one.parameters);
            bind(one.body, around(Map.of(), one.parameters), ahead);
        }
    }

    private void noteSeconds(List<Name> names) {
        Set<String> seen = new HashSet<>();
        for (Name name : names) {
            if (!seen.add(name.text)) {
                wrongNames.add(name.place);
            }
        }
    }

    private static Map<String, Name> around(Map<String, Name> outside, List<Name> names) {
        Map<String, Name> inside = new HashMap<>(outside);
        for (Name name : names) {
            inside.put(name.text, name);
        }
        return inside;
    }

    /** The last part of an exp with names is where they are bound. */
    private void bind(Exp exp, Map<String, Name> outside, Map<String, Definition> ahead) {
        if (exp.sort == Sort.NAME) {
            exp.bound = outside.get(exp.sign);
            exp.definition = exp.bound == null ? ahead.get(exp.sign) : null;
            if (exp.bound == null && exp.definition == null) {
                wrongNames.add(exp.place);
            }
        }
        noteSeconds(exp.names);
        for (int i = 0; i < exp.parts.size(); i++) {
            boolean isLast = i == exp.parts.size() - 1;
            bind(exp.part(i), isLast ? around(outside, exp.names) : outside, ahead);
        }
    }
}
