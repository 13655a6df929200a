/** "Terms", FAULT 3: each limit, just kept and just passed, and texts as full as can be. */
public final class LimitsTest {
    private static final Checks C = new Checks();

    public static void main(String[] args) {
        ninthType();
        ninthMember();
        membersOfEachTypeCount();
        fourthParameter();
        eightyFirstS();
        everyTextCountsAnew();
        bodiesWithinEight();
        minusWithinEight();
        bracketsWithinEight();
        mixedWithinEight();
        whatIsNoBracketOfAFactor();
        theLeastOfOneToken();
        firstOfOneToThree();
        fullOfTerms();
        fullOfUses();
        fullOfTries();
        fullOfMembers();
        C.end();
    }

    private static String types(int n) {
        StringBuilder b = new StringBuilder();
        for (int i = 0; i < n; i++) {
            b.append("type t").append(i).append("{}");
        }
        return b.toString();
    }

    /** "3 the 9th TYPE .. (at their first token)". */
    private static void ninthType() {
        for (int n = 0; n <= 8; n++) {
            C.right(types(n));
        }
        C.fault(3, types(8) + "^type t8{}");
        C.fault(3, types(8) + "\n ^type t0{}");
        C.fault(3, types(8) + "^type");
        C.fault(3, types(8) + "^type @");
        C.fault(3, types(8) + "^type a{}type b{}");
    }

    private static String fields(int n) {
        StringBuilder b = new StringBuilder();
        for (int i = 0; i < n; i++) {
            b.append("field f").append(i).append(";");
        }
        return b.toString();
    }

    /** "3 the .. 9th MEMBER of a TYPE (at their first token)". */
    private static void ninthMember() {
        String[] all = {"const k=1;", "field x;", "static field x;", "block{}", "static block{}", "maker(){}", "act f(){}"};
        for (String member : all) {
            C.due("eight members", C.right("type a{" + fields(7) + member + "}").type(0, 1), 8);
            C.fault(3, "type a{" + fields(8) + "^" + member + "}");
            C.fault(3, "type a{" + member + fields(7) + "^" + member + "}");
        }
        C.fault(3, "type a{" + fields(8) + "^static maker(){}}");
        C.fault(3, "type a{" + fields(8) + "^act");
        C.fault(3, "type a{" + Checks.repeat("block{}", 8) + "^block{}}");
    }

    private static void membersOfEachTypeCount() {
        StringBuilder b = new StringBuilder();
        for (int i = 0; i < 8; i++) {
            b.append("type t").append(i).append(i == 0 ? "" : ":t0").append("{").append(fields(8)).append("}");
        }
        MakerStarts x = C.right(b.toString());
        for (int t = 0; t < 8; t++) {
            C.due("members of " + t, x.type(t, 1), 8);
            C.due("fields of " + t, x.type(t, 4), 8);
        }
        C.fault(3, b.substring(0, b.length() - 1) + "^field x;}");
    }

    /** "3 .. 4th PARAMETER .. (at it)". */
    private static void fourthParameter() {
        C.right("type a{maker(){}maker(p){}maker(p,q){}maker(p,q,r){}}");
        C.fault(3, "type a{maker(p,q,r,^s){}}");
        C.fault(3, "type a{maker(p,q,r,^p){}}");
        C.fault(3, "type a{maker(p,p,p,^p){}}");
        C.fault(3, "type a{maker(p,q,r,^s,t){}}");
        C.fault(2, "type a{maker(p,q,r,^1){}}");
        C.fault(1, "type a{maker(p,q,r,^abcdefghi){}}");
        C.fault(2, "type a{maker(p,q,r ^s){}}");
    }

    /** "3 .. the 81st S .. (at it)": of the whole text, those within others too. */
    private static void eightyFirstS() {
        String[] all = {"x=1;", "a.s=1;", "mark 1;", "if(0<1){}", "new a();", "try{}finally{}", "try{}catch 7{}"};
        for (String s : all) {
            C.right("type a{field x;static field s;block{" + Checks.repeat("x=1;", 79) + s + "}}");
            C.fault(3, "type a{field x;static field s;block{" + Checks.repeat("x=1;", 80) + "^" + s + "}}");
        }
        C.right("type a{field x;act f(){" + Checks.repeat("x=1;", 79) + "return 1;}}");
        C.fault(3, "type a{field x;act f(){" + Checks.repeat("x=1;", 80) + "^return 1;}}");
        C.right("type a{field x;act f(){" + Checks.repeat("x=1;", 79) + "throw 4;}}");
        C.fault(3, "type a{field x;act f(){" + Checks.repeat("x=1;", 80) + "^throw 4;}}");

        String ten = Checks.repeat("s=1;", 10);
        String spread = "type a{static field s;block{" + ten + "}static block{" + ten + "}maker(){" + ten + "}act f(){" + ten + "}}"
                + "type b:a{maker()super();{" + ten + "}block{" + ten + "}static block{" + ten + "}act g(){" + ten + "}";
        C.right(spread + "}");
        C.fault(3, spread + "act h(){^s=1;}}");
        C.fault(3, spread + "}type c{block{^new a();}}");

        String within = "type a{static field s;block{if(0<1){" + ten + ten + "}else{" + ten + "}try{" + ten + "}catch 4{" + ten + "}finally{"
                + ten + "}try{" + ten + "}finally{" + Checks.repeat("s=1;", 7) + "}";
        C.right(within + "}}");
        C.fault(3, within + "^s=1;}}");
        C.fault(3, within + "^try{}finally{}}}");
    }

    private static void everyTextCountsAnew() {
        MakerStarts x = new MakerStarts();
        for (int i = 0; i < 3; i++) {
            C.reads(x, types(7) + "type a{block{mark 1;" + Checks.repeat("x=1;", 79) + "}field x;}");
            Checks.feed(x, types(8) + "type");
            C.due("a ninth type", x.read(), -23);
        }
    }

    private static final String[][] BODIES = {
        {"if(0<1)", ""}, {"if(0<1){}else", ""}, {"try", "finally{}"}, {"try", "catch 4{}"}, {"try{}catch 4", ""}, {"try{}finally", ""},
    };

    /** "3 .. a BODY .. within 8 others (at it)". */
    private static void bodiesWithinEight() {
        for (String[] outer : BODIES) {
            String ahead = Checks.repeat(outer[0] + "{", 7);
            String behind = Checks.repeat("}" + outer[1], 7);
            for (String first : new String[] {"block{", "static block{", "maker(){", "maker()super();{", "act f(){"}) {
                C.right("type a{" + first + ahead + behind + "}}");
                C.right("type a{" + first + ahead + "mark 1;" + behind + "mark 2;}}");
                for (String[] inner : BODIES) {
                    int brace = inner[0].indexOf('{');
                    String marked = brace >= 0
                            ? inner[0].substring(0, brace) + "^" + inner[0].substring(brace) + "{}" + inner[1]
                            : inner[0] + "^{}" + inner[1];
                    C.fault(3, "type a{" + first + ahead + marked + behind + "}}");
                }
            }
        }
        String six = Checks.repeat("if(0<1){", 6);
        C.right("type a{block{" + six + "if(0<1){}else{}try{}catch 4{}finally{}if(0<1){}" + Checks.repeat("}", 6) + six
                + "try{}finally{}" + Checks.repeat("}", 6) + "}}");
        C.fault(2, "type a{block{" + Checks.repeat("if(0<1){", 7) + "if(0<1)^(");
    }

    private static final String[][] PLACES = {
        {"const k=", ";"}, {"field x=", ";"}, {"static field s=", ";"}, {"maker(p){}maker()this(", ");{}"},
        {"maker(p){}maker()this(1*", ");{}"},
    };

    /** "3 .. - of a FACTOR .. within 8 others (at it)". */
    private static void minusWithinEight() {
        for (String[] place : PLACES) {
            C.right("type a{" + place[0] + "--------1" + place[1] + "}");
            C.fault(3, "type a{" + place[0] + "--------^-1" + place[1] + "}");
            C.fault(3, "type a{" + place[0] + "2---------^-1" + place[1] + "}");
            C.right("type a{" + place[0] + "2---------1" + place[1] + "}");
            C.right("type a{" + place[0] + "--------1*--------1---------1" + place[1] + "}");
            C.fault(3, "type a{" + place[0] + "--------^-" + place[1] + "}");
        }
        C.right("type a{block{mark -------1;}}");
        C.fault(3, "type a{block{mark -------^-1;}}");
        C.due("eight of them", C.right("type a{const k=--------5;const l=-------5;}").held(0, 0), 5);
    }

    /** "3 .. '(' of one within 8 others (at it)". */
    private static void bracketsWithinEight() {
        String open = Checks.repeat("(", 8);
        String close = Checks.repeat(")", 8);
        for (String[] place : PLACES) {
            C.right("type a{" + place[0] + open + "1" + close + place[1] + "}");
            C.fault(3, "type a{" + place[0] + open + "^(1)" + close + place[1] + "}");
            C.right("type a{" + place[0] + open + "1" + close + "+" + open + "1" + close + place[1] + "}");
            C.fault(3, "type a{" + place[0] + open + "1+^(1)" + close + place[1] + "}");
            C.fault(3, "type a{" + place[0] + open + "^()" + close + place[1] + "}");
        }
        C.right("type a{block{mark (((((((1)))))));}}");
        C.fault(3, "type a{block{mark (((((((^(1))))))));}}");
        C.due("eight of them", C.right("type a{const k=" + open + "5" + close + "-1;}").held(0, 0), 4);
    }

    /** BODIES, - and '(' are "others" to one another. */
    private static void mixedWithinEight() {
        C.right("type a{const k=-(-(-(-(1))));}");
        C.fault(3, "type a{const k=-(-(-(-(^-1))));}");
        C.fault(3, "type a{const k=-(-(-(-(^(1)))));}");
        C.fault(3, "type a{const k=(-(-(-(-^-1))));}");
        for (int bodies = 1; bodies <= 8; bodies++) {
            String ahead = "type a{block{" + Checks.repeat("if(0<1){", bodies - 1);
            String behind = Checks.repeat("}", bodies - 1) + "}}";
            String minus = Checks.repeat("-", 8 - bodies);
            String open = Checks.repeat("(", 8 - bodies);
            String close = Checks.repeat(")", 8 - bodies);
            C.right(ahead + "mark " + minus + "1;" + behind);
            C.fault(3, ahead + "mark " + minus + "^-1;" + behind);
            C.right(ahead + "mark " + open + "1" + close + ";" + behind);
            C.fault(3, ahead + "mark " + open + "^(1)" + close + ";" + behind);
        }
    }

    private static void whatIsNoBracketOfAFactor() {
        String seven = Checks.repeat("if(0<1){", 7);
        C.right("type a{act f(){return 1;}act g(){" + seven + "mark f();new a();" + Checks.repeat("}", 7) + "}}");
        C.right("type a{act f(){return 1;}field x=" + Checks.repeat("(", 8) + "f()" + Checks.repeat(")", 8) + ";}");
        C.right("type a{act f(){return 1;}field x=--------f();}");
        C.right("type a{maker(p){new a(" + Checks.repeat("(", 7) + "p" + Checks.repeat(")", 7) + ");}}");
        C.right("type a{maker(p){if(" + Checks.repeat("(", 7) + "p" + Checks.repeat(")", 7) + "<-------p){}}}");
    }

    /** "of one token the least". */
    private static void theLeastOfOneToken() {
        C.fault(1, types(8) + "^abcdefghi");
        C.fault(2, types(8) + "^field");
        C.fault(1, "type a{" + fields(8) + "^@");
        C.fault(2, "type a{" + fields(8) + "^mark");
        C.fault(2, "type a{block{" + Checks.repeat("mark 1;", 80) + "^return 1;}}");
        C.fault(2, "type a{block{" + Checks.repeat("mark 1;", 80) + "^catch 4{}}}");
        C.fault(1, "type a{block{" + Checks.repeat("mark 1;", 80) + "^markmarkm 1;}}");
        C.fault(2, "type a{block{" + Checks.repeat("mark 1;", 79) + "try{}^mark 1;}}");
    }

    /** "the first of 1 to 3". */
    private static void firstOfOneToThree() {
        C.fault(3, "type a{maker(p,q,r,^s){} ; @");
        C.fault(2, "type a{maker(p,q,r ^; s){} @");
        C.fault(1, "type a{maker(p,q ^@ r,s){} ;");
        C.fault(3, "type a:zz{field x;field x;const k=q;block{throw 9;}maker(p,q,r,^s){}");
    }

    /** As many bytes as can be, nearly all of them one EXP. */
    private static void fullOfTerms() {
        String ahead = "type a{maker(p){mark 1";
        String behind = ";}}";
        int n = (1600 - ahead.length() - behind.length()) / 2;
        MakerStarts x = C.right(ahead + Checks.repeat("-p", n) + behind);
        C.due("make", x.make(0, 1, 3, 0, 0), 0);
        C.marks("all of them", x, 1 - 3 * n);
        MakerStarts y = C.right(ahead + Checks.repeat("+2", n) + behind);
        C.due("make", y.make(0, 1, 3, 0, 0), 0);
        C.marks("all of them", y, 1 + 2 * n);
        MakerStarts z = C.right(ahead + Checks.repeat("*-p", n * 2 / 3) + behind);
        C.due("make", z.make(0, 1, 1, 0, 0), 0);
        C.marks("all of them", z, n * 2 / 3 % 2 == 0 ? 1 : -1);
        C.fault(2, "type a{maker(p){new a(1" + Checks.repeat(",p", 788) + "^");
        C.fault(5, "type a{maker(p){new ^a(1" + Checks.repeat(",p", 780) + ");}}");
        C.fault(5, "type a{maker(p)^this(1" + Checks.repeat(",p", 780) + ");{}}");
        C.right("type a{maker(p)fails 4" + Checks.repeat(",4", 780) + "{}}");
        C.fault(9, "type a{maker(p)fails 4" + Checks.repeat(",4", 780) + ",^7{}}");
    }

    /** As many NAMES as can be, and the last of them means nothing. */
    private static void fullOfUses() {
        C.fault(5, "type a{field x;maker(p){mark 1" + Checks.repeat("-x", 780) + "-^y;}}");
        C.fault(5, "type a{field x;maker(p){mark 1" + Checks.repeat("-p", 780) + "-^y;}}");
    }

    /** As many bytes as can be, nearly all of them tries, and the last catch of them is wrong. */
    private static void fullOfTries() {
        String tries = Checks.repeat("try{}catch 4{}finally{}", 67);
        C.right("type a{block{" + tries + "try{}finally{}}}");
        C.fault(11, "type a{block{" + tries + "try{}catch ^1{}}}");
        C.fault(11, "type a{^block{" + tries + "throw 4;}}");
        MakerStarts x = C.right("type a{maker(){" + Checks.repeat("try{throw 4;}catch 4{}", 29) + "mark 7;}}");
        C.due("make", x.make(0, 0, 0, 0, 0), 0);
        C.marks("behind all of them", x, 7);
        C.due("a step each, and what they throw", x.told(4), 1 + 2 * 29 + 1);
    }

    private static void fullOfMembers() {
        StringBuilder b = new StringBuilder();
        for (int t = 0; t < 8; t++) {
            b.append("type t").append(t).append(t == 0 ? "" : ":t" + (t - 1)).append("{");
            for (int m = 0; m < 8; m++) {
                b.append(m % 2 == 0 ? "field" : "static field").append(" f").append(m).append("=").append(10 * t + m).append(";");
            }
            b.append("}");
        }
        MakerStarts x = C.right(b.toString());
        C.due("make", x.make(7, 0, 0, 0, 0), 0);
        for (int t = 0; t < 8; t++) {
            for (int m = 0; m < 8; m++) {
                C.due("member " + m + " of " + t, m % 2 == 0 ? x.field(t, m) : x.held(t, m), 10 * t + m);
            }
        }
    }
}
