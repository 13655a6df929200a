/** "Terms", FAULTS 4 to 10: each clause that names an edge, and which of several FAULTS counts. */
public final class FaultsTest {
    private static final Checks C = new Checks();

    public static void main(String[] args) {
        toldAlreadyOfTypes();
        toldAlreadyOfMembers();
        toldAlreadyOfActs();
        toldAlreadyOfParameters();
        secondMaker();
        parentToldAbove();
        newToldAnywhere();
        nameThatMeansNothing();
        makersOfAsMany();
        makersWithoutParent();
        fieldsInStaticPlaces();
        actsInStaticPlaces();
        constantsToldAbove();
        toldAtOrBelow();
        ownSortAlone();
        aheadOfEquals();
        numbersBehindThrow();
        numbersBehindFails();
        numbersBehindCatch();
        ringsOfThis();
        firstByItsPlace();
        ofOnePlaceTheLeast();
        C.end();
    }

    /** "4 a NAME told already: of a TYPE by one above it". */
    private static void toldAlreadyOfTypes() {
        C.fault(4, "type a{}type ^a{}");
        C.fault(4, "type a{}type b{}type c{}type d{}type e{}type f{}type g{}type ^a{}");
        C.fault(4, "type a{}type b{}type c{}type d{}type e{}type f{}type g{}type ^g{}");
        C.fault(4, "type a{}type ^a{}type a{}");
        C.fault(4, "type a{}type ^a:a{}");
        C.right("type a{}type a0{}type aa{}");
        C.right("type a{field a;act a(){return a;}maker(a){a=1;}}");
    }

    /** "of a FIELD, STATIC, CONSTANT by another of this TYPE". */
    private static void toldAlreadyOfMembers() {
        String[] sorts = {"field x;", "field x=1;", "static field x;", "static field x=1;", "const x=1;"};
        for (String first : sorts) {
            for (String second : sorts) {
                C.fault(4, "type a{" + first + second.replace("x", "^x") + "}");
                C.fault(4, "type a{" + first + "act x(){}block{}" + second.replace("x", "^x") + "}");
                C.right("type a{" + first + "}type b:a{" + second + "}type c{" + second + "}");
            }
        }
        C.fault(4, "type a{field x;field ^x;field x;}");
        C.right("type a{field x;act x(){}}");
        C.right("type a{field a;field x;}type x{field x;}");
    }

    /** "of an ACT by another of it". */
    private static void toldAlreadyOfActs() {
        C.fault(4, "type a{act f(){}act ^f(){}}");
        C.fault(4, "type a{act f(){}act g(){}field f;act ^f(){}}");
        C.right("type a{act f(){}act g(){}}type b:a{act f(){}act g(){}}type c:b{act f(){}}");
        C.right("type a{const f=1;act f(){}}");
    }

    /** "of a PARAMETER by another of it". */
    private static void toldAlreadyOfParameters() {
        C.fault(4, "type a{maker(p,^p){}}");
        C.fault(4, "type a{maker(p,q,^p){}}");
        C.fault(4, "type a{maker(p,q,^q){}}");
        C.fault(4, "type a{maker(p,^p,p){}}");
        C.right("type a{maker(p){}maker(q,p){}maker(p,q,r){}}");
        C.right("type a{field p;static field q;const r=1;act p(){}maker(p,q,r){}}");
    }

    /** "a second maker of as many PARAMETERS (at maker)". */
    private static void secondMaker() {
        String[] names = {"", "p", "p,q", "p,q,r"};
        String[] others = {"", "x", "x,y", "x,y,z"};
        for (int n = 0; n < 4; n++) {
            C.fault(4, "type a{maker(" + names[n] + "){}^maker(" + others[n] + "){}}");
            C.fault(4, "type a{maker(" + names[n] + "){}maker(" + names[(n + 1) % 4] + "){}^maker(" + others[n] + ")fails 1{}}");
            C.right("type a{maker(" + names[n] + "){}}type b{maker(" + names[n] + "){}}");
        }
        C.right("type a{maker(){}maker(p){}maker(p,q){}maker(p,q,r){}}");
    }

    /** "5 a NAME that means nothing (also of a PARENT: it must be told above". */
    private static void parentToldAbove() {
        C.right("type a{}type b:a{}type c:a{}type d:c{}");
        C.fault(5, "type a:^a{}");
        C.fault(5, "type a:^b{}");
        C.fault(5, "type a:^b{}type b{}");
        C.fault(5, "type a:^b{}type b:a{}");
        C.fault(5, "type a{field x;}type b:^x{}");
        C.fault(5, "type a{}type b:a{}type c:^d{}type d:a{}");
    }

    /** "in new: anywhere), at it" and "new with as many as no maker has, at its NAME". */
    private static void newToldAnywhere() {
        C.right("type a{block{new a();new b();new c();}}type b{block{new a();new b();new c();}}type c{}");
        C.fault(5, "type a{block{new ^b();}}");
        C.fault(5, "type a{field x;block{new ^x();}}");
        C.fault(5, "type a{maker(p){new ^p();}}");
        C.fault(5, "type a{act f(){new ^f();}}");
        String[] names = {"", "p", "p,q", "p,q,r"};
        String[] given = {"", "1", "1,2", "1,2,3", "1,2,3,4", "1,2,3,4,5"};
        for (int told = 0; told < 4; told++) {
            for (int n = 0; n < 6; n++) {
                String behind = "type b{maker(" + names[told] + "){}}";
                if (n == told) {
                    C.right("type a{block{new b(" + given[n] + ");}}" + behind);
                } else {
                    C.fault(5, "type a{block{new ^b(" + given[n] + ");}}" + behind);
                }
            }
        }
        for (int n = 1; n < 6; n++) {
            C.fault(5, "type a{block{new ^b(" + given[n] + ");}}type b{}");
        }
        C.fault(5, "type a{maker(p){}}type b:a{maker()super(1);{new ^b(1);}}");
    }

    private static void nameThatMeansNothing() {
        C.fault(5, "type a{field x=1+^y;}");
        C.fault(5, "type a{const x=1+^y;}");
        C.fault(5, "type a{static field x=1+^y;}");
        C.fault(5, "type a{block{^y=1;}}");
        C.fault(5, "type a{static block{^y=1;}}");
        C.fault(5, "type a{block{if(1<^y){}}}");
        C.fault(5, "type a{block{if(^y<1){}}}");
        C.fault(5, "type a{act f(){return ^y;}}");
        C.fault(5, "type a{maker(p,q){}maker()this(1,^y);{}}");
        C.fault(5, "type a{maker(p){}maker()this(^q);{}}");
        C.fault(5, "type a{maker(p){new a(^y);}}");
        C.fault(5, "type a{field x=^b.x;}");
        C.fault(5, "type a{block{^b.x=1;}}");
        C.fault(5, "type a{maker(p){mark ^p.x;}}");
        C.fault(5, "type a{field x;block{mark ^x.x;}}");
        C.fault(5, "type a{field x=a.^y;}");
        C.fault(5, "type a{block{a.^y=1;}}");
        C.fault(5, "type a{field y;block{mark a.^y;}}");
        C.fault(5, "type a{act y(){}block{mark a.^y;}}");
        C.fault(5, "type a{maker(p){mark a.^p;}}");
        C.fault(5, "type a{block{mark a.^a;}}");
        C.fault(5, "type a{block{mark ^a;}}");
        C.fault(5, "type a{block{mark ^f();}}");
        C.fault(5, "type a{maker(f){mark ^f();}}");
        C.fault(5, "type a{block{mark ^a();}}");
        C.fault(5, "type a{maker(p){}block{mark ^p;}}");
        C.fault(5, "type a{maker(p){}maker(q,r){mark ^p;}}");
        C.fault(5, "type a{maker(p){}act f(){^p=1;}}");
        // of those below and of others there is no MEMBER
        C.fault(5, "type a{block{mark ^x;}}type b:a{field x;}");
        C.fault(5, "type a{block{mark ^f();}}type b:a{act f(){}}");
        C.fault(5, "type a{block{mark a.^s;}}type b:a{static field s;}");
        C.right("type a{block{mark b.s;b.s=1;}}type b{static field s;}");
        C.right("type a{field x;act f(){}static field s;const k=1;}type b:a{}type c:b{block{x=x+f()+s+k+c.s+c.k+b.s+a.s;c.s=1;}}");
    }

    /** "whose this or super (super without any, if none is told) is no maker of as many PARAMETERS as it gives". */
    private static void makersOfAsMany() {
        String[] names = {"", "p", "p,q", "p,q,r"};
        String[] given = {"", "1", "1,2", "1,2,3", "1,2,3,4"};
        for (int told = 0; told < 4; told++) {
            String above = "type a{maker(" + names[told] + "){}}";
            for (int n = 0; n < 5; n++) {
                if (n == told) {
                    C.right(above + "type b:a{maker()super(" + given[n] + ");{}}");
                } else {
                    C.fault(5, above + "type b:a{maker()^super(" + given[n] + ");{}}");
                }
                int asks = told == 3 ? 0 : 3;
                String first = "type a{maker(" + names[told] + "){}maker(" + (asks == 0 ? "" : "x,y,z") + ")";
                String other = "this(" + given[n] + ");{}}";
                if (n == told) {
                    C.right(first + other);
                } else {
                    C.fault(n == asks ? 10 : 5, first + "^" + other);
                }
            }
            if (told == 0) {
                C.right(above + "type b:a{}type c:a{maker(){}maker(p){}}");
            } else {
                C.fault(5, above + "type ^b:a{}");
                C.fault(5, above + "type b:a{^maker(){}}");
                C.fault(5, above + "type b:a{maker()super(" + given[told] + ");{}^maker(p)fails 1{}}");
            }
        }
        C.right("type a{}type b:a{}type c:b{maker(){}maker(p)super();{}}");
        C.fault(5, "type a{}type b:a{maker()^super(1);{}}");
        C.fault(5, "type a{maker(p){}}type b:a{maker(p)super(p);{}}type ^c:b{}");
        C.fault(5, "type a{maker(){}maker(p){}}type b:a{maker(p,q)^this(p);{}}");
    }

    /** "of a TYPE without PARENT super without any is well, others are not". */
    private static void makersWithoutParent() {
        C.right("type a{maker()super();{}maker(p)super();{}}");
        C.fault(5, "type a{maker()^super(1);{}}");
        C.fault(5, "type a{maker(p,q,r)^super(p,q,r);{}}");
        C.fault(5, "type a{maker(p)^super(1,2,3,4);{}}");
    }

    private static final String[][] STATIC_PLACES = {
        {"static field s=", ";"}, {"static field s=1+2*-(", ");"}, {"static block{mark ", ";}"}, {"static block{if(", "<1){}}"},
        {"static block{if(1<", "){}}"}, {"static block{if(0<1){}else{mark ", ";}}"}, {"static block{try{}finally{mark ", ";}}"},
        {"static block{try{}catch 4{mark ", ";}}"}, {"static field s;static block{s=", ";}"}, {"static field s;static block{a.s=", ";}"},
        {"static block{new a(", ");}maker(p){}"}, {"const k=", ";"}, {"maker(p){}maker()this(", ");{}"},
        {"maker(p,q){}maker()this(1,", ");{}"}, {"maker(q)super(", ");{}"},
    };
    private static final String[][] THING_PLACES = {
        {"field z=", ";"}, {"block{mark ", ";}"}, {"block{if(", "<1){}}"}, {"maker(){mark ", ";}"}, {"maker(){y=", ";}"},
        {"act g(){return ", ";}"}, {"maker(p)super();{}block{new a(", ");}"},
    };

    /** "6 a NAME in a STATIC place that means a FIELD (at it)". */
    private static void fieldsInStaticPlaces() {
        for (String[] place : STATIC_PLACES) {
            String up = place[0].startsWith("maker(q)super") ? "type u{maker(p){}}type a:u{" : "type a{";
            C.fault(6, up + "field y;" + place[0] + "^y" + place[1] + "}");
            C.fault(6, up + "field y;" + place[0] + "1+^y" + place[1] + "}");
        }
        for (String[] place : THING_PLACES) {
            C.right("type a{field y;" + place[0] + "y" + place[1] + "}");
        }
        C.fault(6, "type a{field y;static block{^y=1;}}");
        C.fault(6, "type a{field y;}type b:a{static block{^y=1;}}");
        C.fault(6, "type a{field y;}type b:a{static field s=^y;}");
        C.right("type a{field y;maker(p){}maker(y,q)this(y);{}}");
        C.right("type a{static field y;static block{y=1;}}");
        C.right("type a{field y;}type b:a{static field y;static block{y=y+1;}}");
        C.fault(6, "type a{static field y;}type b:a{field y;static block{mark ^y;}}");
    }

    /** "a NAME ( ) there (at it)". */
    private static void actsInStaticPlaces() {
        for (String[] place : STATIC_PLACES) {
            String up = place[0].startsWith("maker(q)super") ? "type u{maker(p){}}type a:u{" : "type a{";
            C.fault(6, up + "act f(){}" + place[0] + "^f()" + place[1] + "}");
            C.fault(5, up + "act f(){}" + place[0] + "^h()" + place[1] + "}");
        }
        for (String[] place : THING_PLACES) {
            C.right("type a{field y;act f(){}" + place[0] + "f()" + place[1] + "}");
        }
        C.fault(6, "type a{act f(){}}type b:a{static field s=^f();}");
    }

    /** "7 a NAME in a const's EXP that is none of a CONSTANT told above, in this TYPE or another one, and a NAME ( )". */
    private static void constantsToldAbove() {
        C.right("type a{const k=1;const l=k;const m=a.k+a.l;}");
        C.fault(7, "type a{const k=^k;}");
        C.fault(7, "type a{const k=^a.k;}");
        C.fault(7, "type a{const k=1+^l;const l=1;}");
        C.fault(7, "type a{const k=1+^a.l;const l=1;}");
        C.right("type a{const k=1;}type b{const l=a.k;}type c:b{const m=l+c.l+b.l;}");
        C.fault(7, "type a{const l=^b.k;}type b{const k=1;}");
        C.fault(7, "type a{static field k;}type b{const l=^a.k;}");
        C.fault(7, "type a{static field k;}type b:a{const l=^k;}");
        C.fault(7, "type a{static field k;const l=-^k;}");
        C.fault(7, "type a{const l=^k;static field k;}");
        C.fault(7, "type a{const k=1;}type b:a{const l=^k;const k=2;}");
        C.right("type a{const k=1;}type b:a{const l=a.k;const k=2;}");
        C.right("type a{block{}const k=1;act f(){}field x;static field s;const l=k;}");
    }

    /** "a NAME alone, in the EXP of a FIELD or STATIC, or in a block, that means a FIELD or STATIC of this TYPE told at or below it". */
    private static void toldAtOrBelow() {
        C.fault(7, "type a{field x=^x;}");
        C.fault(7, "type a{field x=1-^y;field y;}");
        C.right("type a{field y;field x=y;}");
        C.fault(7, "type a{static field x=^x;}");
        C.fault(7, "type a{static field x=1-^y;static field y;}");
        C.right("type a{static field y;static field x=y;}");
        C.fault(7, "type a{block{mark ^y;}field y;}");
        C.right("type a{field y;block{mark y;}}");
        C.fault(7, "type a{static block{mark ^y;}static field y;}");
        C.right("type a{static field y;static block{mark y;}}");
        C.fault(7, "type a{block{if(0<1){try{}catch 4{}finally{new a(1,^y);}}}field y;maker(p,q){}}");
        C.fault(7, "type a{static block{if(^y<1){}}static field y;}");
        C.fault(7, "type a{block{if(1<^y){}}field y;}");
        C.fault(7, "type a{field z;block{z=^y;}field y;}");
        C.fault(7, "type a{static field z;static block{a.z=^y;}static field y;}");
        // of another TYPE, of T . NAME, in a maker or an act
        C.right("type a{field y;static field s;}type b:a{field x=y;block{mark y;}static field t=s;static block{mark s;}}");
        C.right("type a{static field x=a.x;static field z=a.y;static block{mark a.y;}static field y;}");
        C.right("type a{maker(){mark y+s;}act f(){mark y+s;return y+s;}field y;static field s;}");
        C.right("type a{maker(p){}maker()this(s);{}static field s;}");
        C.right("type a{field x=f();act f(){return x+y;}field y;}");
    }

    /** "of its own sort (FIELD in places of a THING, STATIC in STATIC ones)". */
    private static void ownSortAlone() {
        C.right("type a{field x=s;static field s;}");
        C.right("type a{block{mark s;}static field s;}");
        C.right("type a{field x=k;block{mark k;}static field s=k;static block{mark k;}const k=1;}");
        C.fault(6, "type a{static field s=^x;field x;}");
        C.fault(6, "type a{static block{mark ^x;}field x;}");
    }

    /** "but where it stands ahead of =" and "8 a NAME ahead of = that means a CONSTANT (of T . NAME at NAME)". */
    private static void aheadOfEquals() {
        C.right("type a{block{y=1;}field y;}");
        C.right("type a{static block{y=1;a.y=2;}static field y;}");
        C.fault(7, "type a{block{y=^y;}field y;}");
        C.fault(8, "type a{const k=1;block{^k=2;}}");
        C.fault(8, "type a{const k=1;static block{^k=2;}}");
        C.fault(8, "type a{const k=1;maker(p){^k=2;}}");
        C.fault(8, "type a{const k=1;act f(){^k=2;}}");
        C.fault(8, "type a{block{^k=2;}const k=1;}");
        C.fault(8, "type a{const k=1;block{a.^k=2;}}");
        C.fault(8, "type a{const k=1;}type b:a{block{^k=2;}}");
        C.fault(8, "type a{const k=1;}type b:a{block{b.^k=2;}}");
        C.fault(8, "type a{block{b.^k=2;}}type b{const k=1;}");
        C.right("type a{const k=1;maker(k){k=2;}}");
        C.right("type a{const k=1;}type b:a{field k;block{k=2;}}");
        C.fault(8, "type a{static field k;}type b:a{const k=1;block{a.k=1;b.^k=2;}}");
    }

    /** "9 a NUMBER behind throw, fails that is not 1 .. 6". */
    private static void numbersBehindThrow() {
        for (int k = 1; k <= 6; k++) {
            C.right("type a{maker()fails 1,2,3{throw " + k + ";}}");
            C.right("type a{maker()fails 1,2,3{throw 00000000" + k + ";}}");
        }
        for (int k : new int[] {0, 7, 8, 9, 10, 12, 33, 38, 64, 65, 256, 257, 999999999}) {
            C.fault(9, "type a{maker()fails 1,2,3{throw ^" + k + ";}}");
            C.fault(9, "type a{act f(){throw ^" + k + ";}}");
        }
        C.fault(9, "type a{act f(){throw ^000000000;}}");
    }

    private static void numbersBehindFails() {
        for (int k = 1; k <= 6; k++) {
            C.right("type a{maker()fails " + k + "{}}");
            C.right("type a{maker()fails " + k + "," + k + ",1{}}");
        }
        for (int k : new int[] {0, 7, 8, 9, 10, 33, 64, 65, 999999999}) {
            C.fault(9, "type a{maker()fails ^" + k + "{}}");
            C.fault(9, "type a{maker()fails 1,6,^" + k + ",1{}}");
        }
    }

    /** "behind catch not 1 .. 9". */
    private static void numbersBehindCatch() {
        for (int k = 1; k <= 9; k++) {
            C.right("type a{maker(){try{" + (k <= 6 ? "throw " + k + ";" : "") + "}catch " + k + "{}}}");
        }
        for (int k : new int[] {0, 10, 11, 12, 32, 33, 41, 64, 65, 256, 257, 999999999}) {
            C.fault(9, "type a{maker(){try{}catch ^" + k + "{}}}");
        }
    }

    /** "10 this that leads round to its own maker (at the first this of the ring)". */
    private static void ringsOfThis() {
        C.fault(10, "type a{maker()^this();{}}");
        C.fault(10, "type a{maker(p)^this(p);{}}");
        C.fault(10, "type a{maker(p,q,r)^this(p,q,r);{}}");
        C.fault(10, "type a{maker(p)^this(1,2);{}maker(p,q)this(1);{}}");
        C.fault(10, "type a{maker(p,q)^this(1);{}maker(p)this(1,2);{}}");
        C.fault(10, "type a{maker(p)^this(1,2);{}maker(p,q)this(1,2,3);{}maker(p,q,r)this(1);{}}");
        C.fault(10, "type a{maker(p,q,r)^this();{}maker(p,q)this(1,2,3);{}maker(p)this(1,2);{}maker()this(1);{}}");
        C.fault(10, "type a{maker()this(1);{}maker(p)^this(1,2);{}maker(p,q)this(1);{}}");
        C.fault(10, "type a{maker()this(1);{}maker(p)^this(1);{}}");
        C.fault(10, "type a{maker()this(1);{}maker(p)this(1,2);{}maker(p,q)^this(1,2);{}maker(p,q,r)this();{}}");
        C.fault(10, "type a{maker()^this();{}maker(p)this(1);{}}");
        C.right("type a{maker()this(1);{}maker(p)this(1,2);{}maker(p,q)this(1,2,3);{}maker(p,q,r){}}");
        C.right("type a{maker()this(1);{}maker(p,q)this(1);{}maker(p,q,r)this(1);{}maker(p)super();{}}");
        C.right("type a{maker()this(1);{}maker(p){new a();}}");
    }

    /** "Without these the first by its place". */
    private static void firstByItsPlace() {
        C.fault(11, "type a{^act f(){throw 1;}field x;field x;}");
        C.fault(10, "type a{maker()^this();{}field x;field x;}");
        C.fault(9, "type a{act f(){throw ^7;}field x;field x;}");
        C.fault(8, "type a{const k=1;act f(){^k=1;}field x;field x;}");
        C.fault(7, "type a{field z=^x;field x;field x;}");
        C.fault(6, "type a{field z;static field s=^z;field x;field x;}");
        C.fault(5, "type a{field z=^q;field x;field x;}");
        C.fault(4, "type a{field x;field ^x;field z=q;}");
        C.fault(5, "type a:^q{field x;field x;}");
        C.fault(5, "type a{maker(p){}}type ^b:a{field x=y;}");
        C.fault(11, "type ^a{field x=y;block{if(0<1){throw 1;}}}");
        C.fault(11, "type ^a:q{block{if(0<1){throw 1;}}}");
        C.fault(11, "type a{^block{throw 4;mark y;}}");
        C.fault(11, "type a{^static block{if(0<1){throw 1;}mark y;}}");
        C.fault(5, "type a{maker(p)^this();{throw 9;}}");
        C.fault(11, "type a{^maker(p)this();{throw 1;}}");
        C.fault(5, "type a{block{mark b.^q;new c(1);}}type b{}type c{}");
    }

    /** "of one place the least". */
    private static void ofOnePlaceTheLeast() {
        // 4 and 5, 4 and 11 at a TYPE's NAME
        C.fault(4, "type a{maker(p){}}type b{}type ^b:a{}");
        C.fault(4, "type a{}type ^a{block{if(0<1){throw 1;}}}");
        // 5 and 11 at a TYPE's NAME
        C.fault(5, "type a{maker(p){}}type ^b:a{block{if(0<1){throw 1;}}}");
        // 4 and 5, 4 and 11, 5 and 11 at maker
        C.fault(4, "type a{maker(p){}}type b:a{maker()super(1);{}^maker(){}}");
        C.fault(4, "type a{maker(){}^maker(){throw 1;}}");
        C.fault(5, "type a{maker(p){}}type b:a{^maker(){throw 1;}}");
        // 5 and 6, 5 and 7, 6 and 7
        C.fault(5, "type a{static field s=^f();}");
        C.fault(5, "type a{const k=^f();}");
        C.fault(5, "type a{const k=^y;}");
        C.fault(5, "type a{const k=^y.k;}");
        C.fault(6, "type a{field x;const k=^x;}");
        C.fault(6, "type a{const k=^x;field x;}");
        C.fault(6, "type a{act f(){}const k=^f();}");
    }
}
