import java.util.ArrayList;
import java.util.LinkedHashSet;
import java.util.List;
import java.util.regex.Matcher;
import java.util.regex.Pattern;

/**
 * "Terms", the grammar: the rules stand here as in the document, and tell by themselves which token can
 * come behind any beginning of a text. "2 it can't come", and "how many bytes there are, if it ends too early".
 */
public final class GrammarTest {
    private static final Checks C = new Checks();

    /** x* and [x] are written out; BODY, S are those outside of acts, ABODY, AS those of acts, with return. */
    private static final String[] RULES = {
        "TEXT ->", "TEXT -> TEXT TYPE",
        "TYPE -> type NAME { MEMBERS }", "TYPE -> type NAME : NAME { MEMBERS }",
        "MEMBERS ->", "MEMBERS -> MEMBERS MEMBER",
        "MEMBER -> const NAME = EXP ;",
        "MEMBER -> FIELD", "MEMBER -> static FIELD",
        "FIELD -> field NAME ;", "FIELD -> field NAME = EXP ;",
        "MEMBER -> block BODY", "MEMBER -> static block BODY",
        "MEMBER -> maker ( NAMES ) FAILS OTHER BODY",
        "NAMES ->", "NAMES -> SOMENAMES", "SOMENAMES -> NAME", "SOMENAMES -> SOMENAMES , NAME",
        "FAILS ->", "FAILS -> fails NUMBERS", "NUMBERS -> NUMBER", "NUMBERS -> NUMBERS , NUMBER",
        "OTHER ->", "OTHER -> this ( EXPS ) ;", "OTHER -> super ( EXPS ) ;",
        "MEMBER -> act NAME ( ) ABODY",
        "BODY -> { SS }", "SS ->", "SS -> SS S",
        "ABODY -> { ASS }", "ASS ->", "ASS -> ASS AS",
        "S -> PLAIN", "AS -> PLAIN", "AS -> return EXP ;",
        "PLAIN -> NAME = EXP ;", "PLAIN -> NAME . NAME = EXP ;", "PLAIN -> mark EXP ;", "PLAIN -> throw NUMBER ;",
        "PLAIN -> new NAME ( EXPS ) ;",
        "S -> try BODY CATCH", "S -> try BODY FINALLY", "S -> try BODY CATCH FINALLY",
        "CATCH -> catch NUMBER BODY", "FINALLY -> finally BODY",
        "AS -> try ABODY ACATCH", "AS -> try ABODY AFINALLY", "AS -> try ABODY ACATCH AFINALLY",
        "ACATCH -> catch NUMBER ABODY", "AFINALLY -> finally ABODY",
        "S -> if ( EXP < EXP ) BODY", "S -> if ( EXP < EXP ) BODY else BODY",
        "AS -> if ( EXP < EXP ) ABODY", "AS -> if ( EXP < EXP ) ABODY else ABODY",
        "EXPS ->", "EXPS -> SOMEEXPS", "SOMEEXPS -> EXP", "SOMEEXPS -> SOMEEXPS , EXP",
        "EXP -> TERM", "EXP -> EXP + TERM", "EXP -> EXP - TERM",
        "TERM -> FACTOR", "TERM -> TERM * FACTOR", "TERM -> TERM / FACTOR", "TERM -> TERM % FACTOR",
        "FACTOR -> NUMBER", "FACTOR -> - FACTOR", "FACTOR -> ( EXP )", "FACTOR -> NAME", "FACTOR -> NAME ( )",
        "FACTOR -> NAME . NAME",
    };
    private static final String[] TOKENS = ("type field const static block maker fails this super act mark throw try catch"
            + " finally if else new return { } ( ) , ; : . = + - * / % < NAME NUMBER").split(" ");

    /** Every part of the grammar, left out and not; below every limit of FAULT 3 by more than one. */
    private static final String ALL = "type a{}type b:a{const k=1;field x;field y=2;static field s;static field t=k*3;}"
            + "type c:b{block{}static block{}block{x=1;b.s=2;mark x;}static block{s=1;mark b.s+b.t;}"
            + "maker(){}maker(p,q)fails 4{p=q;}}"
            + "type d:a{maker()fails 4,5 this(1,2);{}maker(p)super();{mark p;}maker(p,q){new c();new c(1,q);throw 5;}}"
            + "type e{act f(){}act g(){return 1;}"
            + "act h(){if(1<2){}if(f()<-g()){return 1;}else{}try{}catch 4{}try{return 2;}catch 5{throw 4;}finally{mark 1;}"
            + "try{}finally{return 3;}return 4;}"
            + "block{if(1<2){}if(1-2<(3+4)*5/6%7){mark 1;}else{mark--2;}}"
            + "block{try{}catch 9{}try{mark 1;}catch 7{mark 2;}finally{mark 3;}try{}finally{try{}finally{}}}}"
            + "type z{const k=((1)+(2*-3)-b.k);field x=f()+k-z.k;act f(){return x;}}";

    private static final class Item {
        final int rule, dot, from;

        Item(int rule, int dot, int from) {
            this.rule = rule;
            this.dot = dot;
            this.from = from;
        }

        @Override
        public boolean equals(Object o) {
            return o instanceof Item i && i.rule == rule && i.dot == dot && i.from == from;
        }

        @Override
        public int hashCode() {
            return (rule * 64 + dot) * 4096 + from;
        }
    }

    private static final List<String[]> RIGHT_SIDES = new ArrayList<>();
    private static final List<String> LEFT_SIDES = new ArrayList<>();
    private static final List<List<Item>> ROWS = new ArrayList<>();

    public static void main(String[] args) {
        for (String rule : RULES) {
            String[] sides = rule.split(" -> ?", 2);
            LEFT_SIDES.add(sides[0]);
            RIGHT_SIDES.add(sides.length < 2 || sides[1].isEmpty() ? new String[0] : sides[1].split(" "));
        }
        C.right(ALL);
        List<Integer> ends = new ArrayList<>();
        List<String> kinds = new ArrayList<>();
        cut(ALL, ends, kinds);
        for (int i = 0; i <= kinds.size(); i++) {
            row(i, i == 0 ? null : kinds.get(i - 1));
            String ahead = ALL.substring(0, i == 0 ? 0 : ends.get(i - 1));
            endsHere(i, ahead);
            for (String token : TOKENS) {
                comesNext(i, ahead, token);
            }
            if (i < kinds.size()) {
                C.fault(1, ahead + " ^@" + ALL.substring(ends.get(i)));
                C.fault(1, ahead + " ^abcdefghi" + ALL.substring(ends.get(i)));
            }
        }
        C.end();
    }

    private static void cut(String text, List<Integer> ends, List<String> kinds) {
        Matcher m = Pattern.compile("[a-z][a-z0-9]*|[0-9]+|[^ \n]").matcher(text);
        while (m.find()) {
            String t = m.group();
            ends.add(m.end());
            kinds.add(Character.isDigit(t.charAt(0)) ? "NUMBER"
                    : Character.isLetter(t.charAt(0)) && !List.of(TOKENS).contains(t) ? "NAME" : t);
        }
    }

    /** Row i: all that can be under way behind the first i tokens (Earley's way). */
    private static void row(int i, String token) {
        LinkedHashSet<Item> row = new LinkedHashSet<>();
        if (i == 0) {
            predict(row, "TEXT", 0);
        } else {
            for (Item item : ROWS.get(i - 1)) {
                if (token.equals(next(item))) {
                    row.add(new Item(item.rule, item.dot + 1, item.from));
                }
            }
        }
        for (int before = -1; before != row.size();) {
            before = row.size();
            for (Item item : new ArrayList<>(row)) {
                String next = next(item);
                if (next == null) {
                    for (Item other : item.from == i ? new ArrayList<>(row) : ROWS.get(item.from)) {
                        if (LEFT_SIDES.get(item.rule).equals(next(other))) {
                            row.add(new Item(other.rule, other.dot + 1, other.from));
                        }
                    }
                } else {
                    predict(row, next, i);
                }
            }
        }
        ROWS.add(new ArrayList<>(row));
    }

    private static void predict(LinkedHashSet<Item> row, String left, int i) {
        for (int r = 0; r < LEFT_SIDES.size(); r++) {
            if (LEFT_SIDES.get(r).equals(left)) {
                row.add(new Item(r, 0, i));
            }
        }
    }

    private static String next(Item item) {
        String[] right = RIGHT_SIDES.get(item.rule);
        return item.dot < right.length ? right[item.dot] : null;
    }

    private static boolean canCome(int i, String token) {
        for (Item item : ROWS.get(i)) {
            if (token.equals(next(item))) {
                return true;
            }
        }
        return false;
    }

    /** Only between TYPES is a text whole: nothing but type can come there. */
    private static boolean isWhole(int i) {
        return canCome(i, "type");
    }

    private static void endsHere(int i, String ahead) {
        if (isWhole(i)) {
            C.right(ahead);
            C.right(ahead + "\n ");
        } else {
            C.fault(2, ahead + "^");
            C.fault(2, ahead + " \n ^");
        }
    }

    private static void comesNext(int i, String ahead, String token) {
        String bytes = token.equals("NAME") ? "nm" : token.equals("NUMBER") ? "7" : token;
        if (!canCome(i, token)) {
            C.fault(2, ahead + " ^" + bytes);
            C.fault(2, ahead + " ^" + bytes + " @");
        } else if (!token.equals("}")) {
            C.fault(2, ahead + " " + bytes + "^");
            C.fault(1, ahead + " " + bytes + "^@");
        }
    }
}
