import java.util.ArrayList;
import java.util.List;
import java.util.Random;

/** Texts of programs by chance that keep to the grammar and to names, mostly, but not to the types. */
final class LooseTexts {
    private static final String[] NAMES = {"a", "b", "c", "f", "g", "x", "y", "l"};
    private static final String[] BITS = {" ", "a", "x", "f", "1", "23", "(", ")", "[", "]", ",", ":", "|", "+", "-", "*", "/",
        "%", "<", "<=", "==", "=", ";", "->", "let", "in", "if", "then", "else", "fun", "case", "of", "end", "yes", "no",
        "def", "\n", "A", ">", "abcdefg", "1234567890", "x1", "_"};
    private final Random random;
    private final StringBuilder text = new StringBuilder();
    private final List<String> inSight = new ArrayList<>();

    private LooseTexts(Random random) {
        this.random = random;
    }

    static String text(Random random) {
        LooseTexts texts = new LooseTexts(random);
        int many = random.nextInt(20) == 0 ? 11 + random.nextInt(3) : 1 + random.nextInt(4);
        int depth = many > 5 ? 0 : 1 + random.nextInt(4);
        for (int i = 0; i < many; i++) {
            texts.definition(i, depth);
        }
        return texts.text.substring(0, Math.min(420, texts.text.length()));
    }

    /** A text with a few signs or words put in, left out or changed. */
    static String changed(String text, Random random) {
        StringBuilder all = new StringBuilder(text);
        for (int i = random.nextInt(3); i >= 0 && all.length() > 0; i--) {
            int place = random.nextInt(all.length());
            int end = Math.min(all.length(), place + random.nextInt(4));
            String bit = BITS[random.nextInt(BITS.length)];
            all.replace(place, end, random.nextInt(3) == 0 ? "" : random.nextInt(3) == 0 ? " " + bit + " " : bit);
        }
        return all.toString();
    }

    private boolean oneOf(int many) {
        return random.nextInt(many) == 0;
    }

    /** A new binding of a name; it is in sight from now on. */
    private String bind() {
        String name = NAMES[random.nextInt(NAMES.length)];
        inSight.add(name);
        return name;
    }

    /** Mostly a name in sight. */
    private String name() {
        return inSight.isEmpty() || oneOf(40) ? NAMES[random.nextInt(NAMES.length)]
            : inSight.get(random.nextInt(inSight.size()));
    }

    private void forget(int before) {
        inSight.subList(before, inSight.size()).clear();
    }

    private void definition(int which, int depth) {
        String name = oneOf(15) ? "f" : "d" + which;
        text.append("def ").append(name);
        inSight.add(name);
        int before = inSight.size();
        for (int i = random.nextInt(oneOf(20) ? 6 : 4); i > 0; i--) {
            text.append(' ').append(oneOf(20) ? bind() : parameter(i));
        }
        text.append(" = ").append(oneOf(6) ? wide() : exp(depth)).append(";");
        forget(before);
    }

    private String parameter(int which) {
        inSight.add("p" + which);
        return "p" + which;
    }

    /** An exp in which the latest names stand; they are out of sight behind it. */
    private String inner(int before, int depth) {
        String exp = exp(depth);
        forget(before);
        return exp;
    }

    /** Types that grow: at about 100 parts there is the bound. */
    private String wide() {
        StringBuilder lets = new StringBuilder();
        int before = inSight.size();
        for (int i = 1 + random.nextInt(9); i > 0; i--) {
            String one = name();
            String other = name();
            String[] some = {"(" + one + "," + other + ")", "(" + one + ",(" + one + "," + other + "))", "[" + one + "]",
                "fun z -> (" + one + ", z)", "fun z y -> if z == 1 then " + one + " else y", "(" + one + ", 1)"};
            lets.append("let v").append(i).append(" = ").append(some[random.nextInt(some.length)]).append(" in ");
            inSight.add("v" + i);
            inSight.add("v" + i);
        }
        return lets.append(inner(before, random.nextInt(3))).toString();
    }

    private String exp(int depth) {
        if (depth <= 0) {
            return atom(0);
        }
        int less = depth - 1;
        int before = inSight.size();
        switch (random.nextInt(14)) {
            case 0:
                String given = exp(less);
                return "let " + bind() + " = " + given + " in " + inner(before, less);
            case 1:
                return "if " + exp(less) + " then " + exp(less) + " else " + exp(less);
            case 2:
                return "fun " + bind() + (oneOf(2) ? " " + bind() : "") + " -> " + inner(before, less);
            case 3:
                return "case " + exp(less) + " of [] -> " + exp(less) + " | " + bind() + " : " + bind() + " -> "
                    + inner(before, less) + " end";
            case 4:
                return "case " + exp(less) + " of (" + bind() + "," + bind() + ") -> " + inner(before, less) + " end";
            case 5:
                return atom(less) + new String[] {"<", "<=", "=="}[random.nextInt(3)] + atom(less);
            case 6: case 7:
                return atom(less) + ":" + atom(less) + (oneOf(2) ? ":" + atom(less) : "");
            case 8: case 9:
                return atom(less) + "+-*/%".charAt(random.nextInt(5)) + atom(less) + "+-*/%".charAt(random.nextInt(5))
                    + atom(less);
            case 10: case 11:
                return atom(less) + " " + atom(less) + (oneOf(3) ? " " + atom(less) : "");
            default:
                return atom(depth);
        }
    }

    private String atom(int depth) {
        if (depth <= 0 || oneOf(3)) {
            return oneOf(3) ? "" + random.nextInt(9) : oneOf(9) ? oneOf(2) ? "yes" : "no" : name();
        }
        switch (random.nextInt(4)) {
            case 0:
                return "[" + (oneOf(3) ? "" : exp(depth - 1) + (oneOf(2) ? ", " + exp(depth - 1) : "")) + "]";
            case 1:
                return "(" + exp(depth - 1) + ", " + exp(depth - 1) + ")";
            default:
                return "(" + exp(depth - 1) + ")";
        }
    }
}
