import java.util.ArrayList;
import java.util.List;
import java.util.Random;

/**
 * A random text, told twice: as the tape takes it, and in Java, the published language. In Java a TYPE a is a
 * class T_a, a FIELD, STATIC, CONSTANT or PARAMETER x is m_x, an ACT f is f_f(). What Java does not
 * have (STEPS, MARKS, how many are under way) is counted by a class R, which each makes and acts
 * through; each constructor has one parameter more, z, so that R can see when it is to be.
 *
 * <p>Lines that begin with "J|" are for javac's judgement alone, those with "R|" for running alone.
 */
final class TwoTellings {
    static final int CONSTANT = 0, FIELD = 1, STATIC = 2, STATIC_BLOCK = 3, BLOCK = 4, MAKER = 5, ACT = 6;
    /** One of these stands for each share that a kind of MEMBERS gets. */
    private static final int[] SHARES = {0, 1, 1, 1, 1, 2, 2, 2, 2, 3, 3, 4, 4, 4, 5, 5, 5, 6, 6, 6};
    private static final int UNCHECKED = 0x70;
    private static final String[] VARIABLES = {"x", "y", "z", "s", "k"};
    private static final String[] NAMES = {"x", "y", "z", "s", "k", "p", "q"};
    private static final String[] ACTS = {"f", "g"};

    static final class Part {
        int kind = 0, tells = 0;
        String name = "";
        boolean hasExp = false;
        final List<String> parameters = new ArrayList<>();

        boolean isStill() {
            return kind == CONSTANT || kind == STATIC || kind == STATIC_BLOCK;
        }

        boolean isVariable() {
            return kind == CONSTANT || kind == FIELD || kind == STATIC;
        }

        boolean isInitial() {
            return kind == FIELD || kind == STATIC || kind == STATIC_BLOCK || kind == BLOCK;
        }

        boolean isRival(Part other) {
            return isVariable() && other.isVariable() && name.equals(other.name)
                    || kind == ACT && other.kind == ACT && name.equals(other.name)
                    || kind == MAKER && other.kind == MAKER && parameters.size() == other.parameters.size();
        }
    }

    static final class Kind {
        final int index;
        final String name;
        Kind parent = null;
        final List<Part> parts = new ArrayList<>();

        Kind(int index) {
            this.index = index;
            this.name = "" + (char) ('a' + index);
        }

        boolean isBelow(Kind other) {
            return this == other || parent != null && parent.isBelow(other);
        }

        boolean hasMaker(int n) {
            boolean any = false;
            for (Part part : parts) {
                any |= part.kind == MAKER;
                if (part.kind == MAKER && part.parameters.size() == n) {
                    return true;
                }
            }
            return !any && n == 0;
        }

        int tells(int n) {
            for (Part part : parts) {
                if (part.kind == MAKER && part.parameters.size() == n) {
                    return part.tells;
                }
            }
            return 0;
        }

        boolean tellsMakers() {
            return parts.stream().anyMatch(part -> part.kind == MAKER);
        }

        boolean hasAct(String act) {
            return parts.stream().anyMatch(part -> part.kind == ACT && part.name.equals(act))
                    || parent != null && parent.hasAct(act);
        }

        Part variable(String wanted, boolean noField) {
            for (Part part : parts) {
                if (part.isVariable() && part.name.equals(wanted) && !(noField && part.kind == FIELD)) {
                    return part;
                }
            }
            return null;
        }

        /** This one or the next above that has such a variable. */
        Kind owner(String wanted, boolean noField) {
            if (variable(wanted, noField) != null) {
                return this;
            }
            return parent == null ? null : parent.owner(wanted, noField);
        }
    }

    /** A piece of both; does Java's flow come out at its end? Behind one where it does not, nothing may stand in Java. */
    private record Piece(String text, String java, boolean ends) {
    }

    final List<Kind> kinds = new ArrayList<>();
    final String text, java;
    private final Random random;
    /** How often something is told that may be wrong. */
    private final double slips;
    private final List<String> constants = new ArrayList<>();
    private int fresh = 0, statementsLeft = 70;
    private Kind kind = null;
    private Part part = null;
    private boolean still = false;
    /** What may come out of the place that is being told, as bits. */
    private int open = 0;

    TwoTellings(long seed) {
        // The first numbers of seeds that are neighbours are much alike.
        random = new Random(seed * 0x9E3779B97F4A7C15L);
        slips = below(2) == 0 ? 0.015 : 0;
        outline();
        StringBuilder texts = new StringBuilder(), javas = new StringBuilder();
        for (Kind each : kinds) {
            kind = each;
            Piece told = tellKind();
            texts.append(told.text);
            javas.append(told.java);
        }
        text = texts.toString();
        java = "public class P {\n" + RUNTIME + javas + entries() + "}\n";
    }

    private int below(int n) {
        return random.nextInt(n);
    }

    private boolean slip() {
        return random.nextDouble() < slips;
    }

    private String oneOf(String... choices) {
        return choices[below(choices.length)];
    }

    private static Piece piece(String text, String java) {
        return new Piece(text, java, true);
    }

    private void outline() {
        int count = 1 + below(4);
        for (int i = 0; i < count; i++) {
            Kind each = new Kind(i);
            each.parent = i > 0 && below(2) == 0 ? kinds.get(below(i)) : null;
            kinds.add(each);
        }
        for (Kind each : kinds) {
            int most = below(9);
            for (int i = 0; i < most; i++) {
                Part next = outlinePart();
                if (each.parts.stream().noneMatch(next::isRival) || slip()) {
                    each.parts.add(next);
                }
            }
            boolean lost = each.parent != null && !each.tellsMakers() && (!each.parent.hasMaker(0) || each.parent.tells(0) != 0);
            each.parent = lost && !slip() ? null : each.parent;
        }
    }

    private Part outlinePart() {
        Part next = new Part();
        next.kind = SHARES[below(SHARES.length)];
        next.hasExp = next.kind == CONSTANT || below(3) > 0;
        if (next.kind == ACT) {
            next.name = oneOf(ACTS);
        } else if (next.isVariable()) {
            next.name = oneOf(VARIABLES);
        } else if (next.kind == MAKER) {
            int count = below(4) == 0 ? 2 + below(2) : below(2);
            String[] names = {oneOf("p", "x"), "q", "y"};
            next.parameters.addAll(List.of(names).subList(0, count));
            next.tells = below(3) > 0 ? 0 : 1 << 1 + below(6) | (below(2) == 0 ? 0 : 1 << 1 + below(3));
        }
        return next;
    }

    private Piece tellKind() {
        Kind up = kind.parent;
        String own = "T_" + kind.name;
        StringBuilder told = new StringBuilder("type " + kind.name + (up == null ? "" : ":" + up.name) + "{");
        StringBuilder java = new StringBuilder("static class " + own + (up == null ? "" : " extends T_" + up.name) + " {\n");
        java.append(up == null ? "{ R.seen(this); }\n" : "{ R.out(); }\n");
        for (Part each : kind.parts) {
            part = each;
            still = each.isStill();
            open = each.tells | UNCHECKED;
            Piece one = tellPart();
            told.append(one.text);
            java.append(one.java);
        }
        if (!kind.tellsMakers()) {
            java.append(own + "(R z) { " + (up == null ? "" : "super(R.in(z));") + " }\n");
        }
        return piece(told + "}", java + "}\n");
    }

    private Piece tellPart() {
        switch (part.kind) {
            case CONSTANT:
                Piece number = constant(0);
                constants.add(kind.name + "." + part.name);
                return piece("const " + part.name + "=" + number.text + ";",
                        "static final int m_" + part.name + " = " + number.java + ";\n");
            case FIELD:
            case STATIC:
                return tellField();
            case ACT:
                return tellAct();
            case MAKER:
                return tellMaker();
            default:
                Piece body = body(1);
                return part.kind == BLOCK ? piece("block" + body.text, body.java + "\n")
                        : piece("static block" + body.text, "static {\n" + nineToEight(body.java) + "}\n");
        }
    }

    /** In Java an Error comes out of a start as it is; in a text it becomes 8, as all others do. */
    private static String nineToEight(String code) {
        return "R|try {\n" + code + "\nR|} catch (NoClassDefFoundError e) { throw new R.Eight(); }\n";
    }

    private Piece tellField() {
        String told = (still ? "static " : "") + "field " + part.name;
        String java = (still ? "static " : "") + "int m_" + part.name;
        if (!part.hasExp) {
            return piece(told + ";", java + ";\n");
        }
        Piece exp = exp(0);
        String set = "m_" + part.name + " = " + exp.java + ";";
        String whole = java + " = " + exp.java + ";\n";
        if (still) {
            String apart = "R|" + java + ";\nR|static {\n" + nineToEight("R|" + set) + "R|}\n";
            whole = "J|" + whole + apart;
        }
        return piece(told + "=" + exp.text + ";", whole);
    }

    private Piece tellAct() {
        Piece body = body(1);
        String called = "int f_" + part.name + "() { int d = R.depth; R.in(null); R.step(); "
                + "try { return b_" + part.name + "(); } finally { R.depth = d; } }\n";
        String done = "int b_" + part.name + "() { if (R.yes()) " + body.java + " return 0; }\n";
        return piece("act " + part.name + "()" + body.text, called + done);
    }

    private Piece tellMaker() {
        StringBuilder told = new StringBuilder("maker(" + String.join(",", part.parameters) + ")");
        StringBuilder java = new StringBuilder("T_" + kind.name + "(");
        for (String each : part.parameters) {
            java.append("int m_" + each + ", ");
        }
        java.append("R z)");
        boolean first = true;
        for (int k = 1; k <= 6; k++) {
            if ((part.tells >> k & 1) != 0) {
                told.append(first ? " fails " : ",").append(k);
                java.append(first ? " throws R.K" : ", R.K").append(k);
                first = false;
            }
        }
        Piece other = otherMaker();
        Piece body = body(1);
        return piece(told + other.text + body.text, java + " { " + other.java + body.java.substring(1) + "\n");
    }

    /** this or super or neither. */
    private Piece otherMaker() {
        int which = below(4), count = below(4);
        if (kind.parent != null && which > 1 && !fits(kind.parent, 0)) {
            which = 1;
        }
        Kind home = which == 0 ? kind : kind.parent;
        for (int i = 0; i < 4 && !fits(home, count); i++) {
            count = (count + 1) % 4;
        }
        if (which > 1 || !fits(home, count) && !slip()) {
            return piece("", kind.parent == null ? "" : "super(R.in(z)); ");
        }
        still = true;
        StringBuilder told = new StringBuilder(which == 0 ? " this(" : " super(");
        StringBuilder java = new StringBuilder(which == 0 ? "this(" : "super(");
        for (int i = 0; i < count; i++) {
            Piece exp = exp(0);
            told.append(i > 0 ? "," : "").append(exp.text);
            java.append(exp.java).append(", ");
        }
        still = false;
        // Object's constructor takes nothing, so EXPS that go to it must be refused by javac, too.
        String last = home != null ? "R.in(z)" : count == 0 ? "" : "0";
        return piece(told + ");", java + last + (which == 0 ? "); R.out(); " : "); "));
    }

    /** this leads to a maker that is told above, so that there are no rings but those of slips. */
    private boolean fits(Kind home, int count) {
        if (home == null) {
            return count == 0 || slip();
        }
        boolean above = false;
        for (Part each : kind.parts) {
            above |= each.kind == MAKER && each.parameters.size() == count && kind.parts.indexOf(each) < kind.parts.indexOf(part);
        }
        return home.hasMaker(count) && (home.tells(count) & ~open) == 0 && (home != kind || above) || slip();
    }

    private Piece constant(int deep) {
        if (deep < 3 && below(3) == 0) {
            return binary(constant(deep + 1), oneOf("+", "-", "*"), constant(deep + 1));
        }
        if (!constants.isEmpty() && below(2) == 0) {
            String name = constants.get(below(constants.size()));
            return piece(name, "T_" + name.replace(".", ".m_"));
        }
        String number = "" + below(1000000000);
        return piece(number, number);
    }

    private static Piece binary(Piece left, String sign, Piece right) {
        return piece("(" + left.text + sign + right.text + ")", "(" + left.java + " " + sign + " " + right.java + ")");
    }

    private Piece exp(int deep) {
        int which = below(deep > 1 ? 9 : 14);
        Piece found = null;
        if (which < 3) {
            found = alone(false);
        } else if (which < 5) {
            found = dotted(false);
        } else if (which < 7) {
            found = call();
        } else if (which == 9) {
            Piece exp = exp(deep + 1);
            found = piece("-(" + exp.text + ")", "(-(" + exp.java + "))");
        } else if (which > 9) {
            found = binary(exp(deep + 1), oneOf("+", "-", "*", "/", "%"), exp(deep + 1));
        }
        String number = "" + (below(12) == 0 ? below(1000000000) : below(5));
        return found == null ? piece(number, number) : found;
    }

    private Piece call() {
        String name = oneOf(ACTS);
        boolean right = !still && kind.hasAct(name);
        return right || slip() ? piece(name + "()", "f_" + name + "()") : null;
    }

    /** A CONSTANT may be asked above the place where it is told; Java has that for its full name only. */
    private Piece alone(boolean ahead) {
        for (int i = 0; i < 6; i++) {
            String name = oneOf(NAMES);
            Kind owner = part.parameters.contains(name) ? null : kind.owner(name, false);
            if (mayStand(name, ahead) || slip() && (owner != null || below(8) == 0)) {
                boolean constant = owner != null && owner.variable(name, false).kind == CONSTANT;
                return piece(name, (constant && !ahead ? "T_" + owner.name + "." : "") + "m_" + name);
            }
        }
        return null;
    }

    private boolean mayStand(String name, boolean ahead) {
        Kind owner = kind.owner(name, false);
        if (part.parameters.contains(name) || owner == null) {
            return owner != null || part.parameters.contains(name);
        }
        Part means = owner.variable(name, false);
        boolean early = part.isInitial() && !ahead && owner == kind && means.kind == (still ? STATIC : FIELD)
                && kind.parts.indexOf(means) >= kind.parts.indexOf(part);
        return !early && !(ahead && means.kind == CONSTANT) && !(still && means.kind == FIELD);
    }

    private Piece dotted(boolean ahead) {
        for (int i = 0; i < 6; i++) {
            Kind from = kinds.get(below(kinds.size()));
            String name = oneOf(VARIABLES);
            Kind owner = from.owner(name, true);
            boolean right = owner != null && !(ahead && owner.variable(name, true).kind == CONSTANT);
            if (right || slip() && (owner != null || below(8) == 0)) {
                String java = owner == null ? "T_" + from.name + ".none" : "T_" + owner.name + ".m_" + name;
                return piece(from.name + "." + name, java);
            }
        }
        return null;
    }

    private Piece body(int deep) {
        StringBuilder told = new StringBuilder("{"), java = new StringBuilder("{ ");
        boolean ends = true;
        int count = below(deep == 1 ? 6 : 3);
        for (int i = 0; i < count && ends && statementsLeft > 0; i++) {
            statementsLeft--;
            Piece one = statement(deep);
            told.append(one.text);
            java.append("R.step(); ").append(one.java).append("\n");
            ends = one.ends;
        }
        return new Piece(told + "}", java + "}", ends);
    }

    private Piece statement(int deep) {
        int which = below(deep >= 4 ? 11 : 20);
        boolean mayThrow = deep > 1 || part.kind == MAKER || part.kind == ACT || below(20) == 0;
        Piece found = null;
        if (which < 4) {
            found = set();
        } else if (which == 5 && part.kind == ACT) {
            Piece exp = exp(0);
            found = new Piece("return " + exp.text + ";", "return " + exp.java + ";", false);
        } else if (which == 6 && mayThrow) {
            int number = thrown();
            found = new Piece("throw " + number + ";", "throw new R.K" + number + "();", false);
        } else if (which == 7 || which == 8) {
            found = making();
        } else if (which > 15) {
            found = branch(deep);
        } else if (which > 11) {
            found = trial(deep);
        }
        if (found != null) {
            return found;
        }
        Piece exp = exp(0);
        return piece("mark " + exp.text + ";", "R.mark(" + exp.java + ");");
    }

    private int thrown() {
        if (slip()) {
            return below(10);
        }
        int number = 1 + below(6);
        return (open >> number & 1) != 0 ? number : 4 + below(3);
    }

    private Piece set() {
        Piece name = below(3) == 0 ? dotted(true) : alone(true);
        if (name == null) {
            return null;
        }
        Piece exp = exp(0);
        return piece(name.text + "=" + exp.text + ";", name.java + " = " + exp.java + ";");
    }

    /** Java starts a class ahead of the EXPS behind new, so these are done first. */
    private Piece making() {
        Kind what = kinds.get(below(kinds.size()));
        int count = below(3);
        boolean right = what.hasMaker(count) && (what.tells(count) & ~open) == 0;
        if (!right && !slip()) {
            return null;
        }
        StringBuilder told = new StringBuilder("new " + what.name + "("), java = new StringBuilder("{ ");
        StringBuilder given = new StringBuilder();
        for (int i = 0; i < count; i++) {
            Piece exp = exp(0);
            String name = "a" + fresh++;
            told.append(i > 0 ? "," : "").append(exp.text);
            java.append("int " + name + " = " + exp.java + "; ");
            given.append(name + ", ");
        }
        String depth = "d" + fresh++;
        java.append("R.step(); int " + depth + " = R.depth; new T_" + what.name + "(" + given + "R.in(null)); ");
        return piece(told + ");", java + "R.depth = " + depth + "; }");
    }

    private Piece branch(int deep) {
        Piece left = exp(0), right = exp(0), then = body(deep + 1);
        String told = "if(" + left.text + "<" + right.text + ")" + then.text;
        String java = "if (" + left.java + " < " + right.java + ") " + then.java;
        if (below(2) == 0) {
            return piece(told, java);
        }
        Piece otherwise = body(deep + 1);
        return new Piece(told + "else" + otherwise.text, java + " else " + otherwise.java, then.ends || otherwise.ends);
    }

    private Piece trial(int deep) {
        int which = below(3), number = slip() ? below(11) : 1 + below(9), outside = open;
        open |= which == 1 ? 0 : 1 << number;
        Piece body = body(deep + 1);
        open = outside;
        String depth = "d" + fresh++, back = "R.depth = " + depth + "; ";
        String told = "try" + body.text, java = "{ int " + depth + " = R.depth; try " + body.java;
        boolean ends = body.ends;
        if (which != 1) {
            boolean idle = number < 4 && !body.text.contains("throw " + number) && !body.text.contains("new ");
            number = idle && !slip() ? 4 + below(6) : number;
            Piece caught = body(deep + 1);
            told += "catch " + number + caught.text;
            java += " catch (" + exception(number) + " e" + depth + ") { " + back + caught.java.substring(1);
            ends |= caught.ends;
        }
        if (which != 0) {
            Piece last = body(deep + 1);
            told += "finally" + last.text;
            java += " finally { " + back + last.java.substring(1);
            ends &= last.ends;
        }
        return new Piece(told, java + " }", ends);
    }

    /** R has K1 to K6 alone, so other NUMBERS are refused by javac, too. */
    private static String exception(int number) {
        switch (number) {
            case 7:
                return "ArithmeticException";
            case 8:
                return "ExceptionInInitializerError";
            case 9:
                return "NoClassDefFoundError";
            default:
                return "R.K" + number;
        }
    }

    private String entries() {
        String[] given = {"", "a, ", "a, b, ", "a, b, c, "};
        StringBuilder java = new StringBuilder("public static int make(int which, int a, int b, int c) {\n"
                + "R.begin(); R.thing = null; R.came = false;\ntry { R.step(); switch (which) {\n");
        for (Kind each : kinds) {
            for (int n = 0; n < 4; n++) {
                if (each.hasMaker(n)) {
                    java.append("case " + (4 * each.index + n) + ": new T_" + each.name + "(" + given[n] + "R.top()); break;\n");
                }
            }
        }
        return java + "} return 0; } catch (Throwable e) { return R.code(e); } }\n"
                + "public static int start(String name) {\nR.begin();\n"
                + "try { Class.forName(name, true, P.class.getClassLoader()); return 0; }"
                + " catch (Throwable e) { return R.code(e); } }\n";
    }

    private static final String RUNTIME = """
            public static final class R {
            public static int steps, depth, marks;
            public static final int[] mark = new int[200];
            public static Object thing;
            public static boolean came;
            static R last;
            static void begin() { steps = 0; depth = 0; }
            static void step() { if (steps >= 120) throw new Spent(); steps++; }
            static R in(R z) { if (depth >= 24) throw new Deep(); depth++; last = z; return z; }
            static R top() { came = true; return in(new R()); }
            static void out() { depth--; }
            static boolean yes() { return true; }
            static void seen(Object o) { if (last != null) thing = o; }
            static void mark(int x) { if (marks < 200) mark[marks++] = x; }
            static int code(Throwable e) {
            if (e instanceof ArithmeticException) return 7;
            if (e instanceof ExceptionInInitializerError) return 8;
            if (e instanceof NoClassDefFoundError) return 9;
            if (e instanceof Deep) return 11;
            if (e instanceof Spent) return 12;
            String name = e.getClass().getName();
            return name.startsWith("P$R$K") ? name.charAt(5) - '0' : -99;
            }
            static class K1 extends Exception { }
            static class K2 extends Exception { }
            static class K3 extends Exception { }
            static class K4 extends RuntimeException { }
            static class K5 extends RuntimeException { }
            static class K6 extends RuntimeException { }
            static class Deep extends RuntimeException { }
            static class Spent extends Error { }
            static class Eight extends ExceptionInInitializerError { }
            }
            """;

    /** The Java telling, for javac's judgement or for running. */
    String javaFor(boolean running) {
        StringBuilder lines = new StringBuilder();
        for (String line : java.split("\n")) {
            boolean marked = line.startsWith("J|") || line.startsWith("R|");
            if (!marked || line.startsWith("R|") == running) {
                lines.append(marked ? line.substring(2) : line).append("\n");
            }
        }
        return lines.toString();
    }
}
