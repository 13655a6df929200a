/** "2 MAKING": numbers, STARTING, new, MAKERS and ACTS; each clause that names an edge. */
public final class OrderTest {
    private static final Checks C = new Checks();

    public static void main(String[] args) {
        numbersWrap();
        divisions();
        divisionsByZero();
        fromTheLeftToTheRight();
        constantsFromTheBeginning();
        constantsDividedByZero();
        parentFirst();
        asTheyStand();
        staticsAreZeroFromTheTextOn();
        underWayGoesOn();
        ownBecomesEight();
        parentsStays();
        askedAgain();
        startedBelowAnAbsentOne();
        staticsStartTheTypeThatHasThem();
        behindTheExpThatItGets();
        newBehindItsExps();
        allFieldsZero();
        fieldsKeepWhatTheyWereSetTo();
        makersOfThis();
        makersOfSuper();
        typesWithoutMakers();
        actsOfTheThing();
        actsWithoutReturn();
        thingsWithinThings();
        C.end();
    }

    private static int value(String exp, int p, int q) {
        MakerStarts x = C.right("type a{field x;maker(p,q){x=" + exp + ";}}");
        C.due("make of " + exp, x.make(0, 2, p, q, 0), 0);
        return x.field(0, 0);
    }

    /** "Numbers are of 32 bits, wrapping". */
    private static void numbersWrap() {
        int low = Integer.MIN_VALUE;
        int high = Integer.MAX_VALUE;
        C.due("high + 1", value("p+1", high, 0), low);
        C.due("low - 1", value("p-1", low, 0), high);
        C.due("- low", value("-p", low, 0), low);
        C.due("- high", value("-p", high, 0), -high);
        C.due("low * -1", value("p*q", low, -1), low);
        C.due("high * high", value("p*q", high, high), 1);
        C.due("low * low", value("p*q", low, low), 0);
        C.due("low + low", value("p+q", low, low), 0);
        C.due("high + high", value("p+q", high, high), -2);
        C.due("999999999 * 3", value("999999999*3", 0, 0), -1294967299);
        C.due("of a constant", C.right("type a{const k=999999999+999999999+999999999;}").held(0, 0), -1294967299);
        MakerStarts x = C.right("type a{static field s=999999999*5;maker(p){if(p<p+1){mark 1;}else{mark 2;}}}");
        x.make(0, 1, high, 0, 0);
        x.make(0, 1, low, 0, 0);
        C.marks("p < p + 1", x, 2, 1);
        C.due("of a static", x.held(0, 0), 705032699);
    }

    /** "/ and % as the published language has them". */
    private static void divisions() {
        int[] all = {7, -7, 2, -2, 1, -1, 3, 100, Integer.MIN_VALUE, Integer.MAX_VALUE};
        for (int p : all) {
            for (int q : all) {
                C.due(p + " / " + q, value("p/q", p, q), p / q);
                C.due(p + " % " + q, value("p%q", p, q), p % q);
            }
        }
        C.due("0 / low", value("p/q", 0, Integer.MIN_VALUE), 0);
        C.due("low / -1", value("p/q", Integer.MIN_VALUE, -1), Integer.MIN_VALUE);
        C.due("low % -1", value("p%q", Integer.MIN_VALUE, -1), 0);
    }

    /** "by 0: THROWN 7". */
    private static void divisionsByZero() {
        String[] by = {"1/0", "1%0", "0/0", "0%0", "1/(1-1)", "5+1/0*0"};
        for (String exp : by) {
            C.due("in a BODY: " + exp, C.right("type a{maker(){mark " + exp + ";}}").make(0, 0, 0, 0, 0), 7);
            C.due("in a field: " + exp, C.right("type a{field x=" + exp + ";}").make(0, 0, 0, 0, 0), 7);
            C.due("in a block: " + exp, C.right("type a{block{mark " + exp + ";}}").make(0, 0, 0, 0, 0), 7);
            C.due("in an act: " + exp, C.right("type a{act f(){return " + exp + ";}field x=f();}").make(0, 0, 0, 0, 0), 7);
            C.due("behind this: " + exp, C.right("type a{maker()this(" + exp + ");{}maker(p){}}").make(0, 0, 0, 0, 0), 7);
            C.due("behind super: " + exp, C.right("type a{maker(p){}}type b:a{maker()super(" + exp + ");{}}").make(1, 0, 0, 0, 0), 7);
            C.due("of new: " + exp, C.right("type a{maker(){new a(" + exp + ");}maker(p){}}").make(0, 0, 0, 0, 0), 7);
            C.due("left of <: " + exp, C.right("type a{maker(){if(" + exp + "<1){}}}").make(0, 0, 0, 0, 0), 7);
            C.due("right of <: " + exp, C.right("type a{maker(){if(1<" + exp + "){}}}").make(0, 0, 0, 0, 0), 7);
            C.due("of a static: " + exp, C.right("type a{static field s=" + exp + ";}").start(0), 8);
            C.due("of a static block: " + exp, C.right("type a{static block{mark " + exp + ";}}").start(0), 8);
        }
        MakerStarts x = C.right("type a{field x=5;maker(p){x=6;x=1/p;x=7;}}");
        C.due("thrown", x.make(0, 1, 0, 0, 0), 7);
        C.due("it was not set", x.field(0, 0), 6);
    }

    /** "EXPS go from the left to the right". */
    private static void fromTheLeftToTheRight() {
        String acts = "act f(){mark 1;return 1;}act g(){mark 2;return 2;}act h(){mark 3;return 0;}";
        String[] exps = {"mark f()+g()*h()-9;", "mark -f()-(g()+h());", "if(f()<g()){mark h();}", "new b(f(),g(),h());", "mark f()/g()%(h()+1);"};
        int[][] marks = {{1, 2, 3, -8}, {1, 2, 3, -3}, {1, 2, 3, 0}, {1, 2, 3}, {1, 2, 3, 0}};
        for (int i = 0; i < exps.length; i++) {
            MakerStarts x = C.right("type a{" + acts + "maker(){" + exps[i] + "}}type b{maker(p,q,r){}}");
            C.due("make of " + exps[i], x.make(0, 0, 0, 0, 0), 0);
            C.marks(exps[i], x, marks[i]);
        }
        MakerStarts y = C.right("type a{maker(p,q,r){mark p*100+q*10+r;}maker()this(b.s,c.s,d.s);{}}"
                + "type b{static field s=1;static block{mark 1;}}type c{static field s=2;static block{mark 2;}}type d{static field s=3;static block{mark 3;}}");
        C.due("make", y.make(0, 0, 0, 0, 0), 0);
        C.marks("behind this", y, 1, 2, 3, 123);
        MakerStarts z = C.right("type a{maker(p){mark 1/p+b.s;}maker(p,q){mark b.s+1/p;}}type b{static field s;static block{mark 5;}}");
        C.due("the left one throws", z.make(0, 1, 0, 0, 0), 7);
        C.marks("the right one was not asked", z);
        C.due("the right one throws", z.make(0, 2, 0, 0, 0), 7);
        C.marks("the left one was asked", z, 5);
    }

    /** "its CONSTANTS are what they are from the beginning, and asking them STARTS none". */
    private static void constantsFromTheBeginning() {
        MakerStarts x = C.right("type a{static field s=1/0;const k=5;static block{mark 9;}}"
                + "type b:a{const l=k+1;static block{mark 8;}}"
                + "type c{maker(){mark a.k;mark b.k;mark b.l;}}type d:a{static field t=k+a.k;}");
        C.due("k", x.held(0, 1), 5);
        C.due("l", x.held(1, 0), 6);
        C.due("make", x.make(2, 0, 0, 0, 0), 0);
        C.marks("asked without a start", x, 5, 5, 6);
        C.due("a", x.type(0, 3), 0);
        C.due("b", x.type(1, 3), 0);
        C.due("start of a", x.start(0), 8);
        C.due("those of an absent one too", x.make(2, 0, 0, 0, 0), 0);
        C.marks("asked without a start", x, 5, 5, 6, 5, 5, 6);
        C.due("k", x.held(0, 1), 5);
        MakerStarts y = C.right("type a{static field s=k;const k=4;static field t=k;}");
        C.due("start", y.start(0), 0);
        C.due("k ahead of the place where it is told", y.held(0, 0), 4);
    }

    /** "(in their EXPS / and % by 0 give 0)". */
    private static void constantsDividedByZero() {
        MakerStarts x = C.right("type a{const a0=5/0;const a1=5%0;const a2=0/0+3;const a3=7-4/(2-2)*5;const a4=9/(1/0);const a5=(8%0)/(8%0)-1;const a6=a0+a5*2;const a7=-(1/0)+7/2;}");
        int[] due = {0, 0, 3, 7, 0, -1, -2, 3};
        for (int i = 0; i < 8; i++) {
            C.due("a" + i, x.held(0, i), due[i]);
        }
        // but not where a constant is only asked
        MakerStarts y = C.right("type a{const k=0;const l=1/k;static field s=1/k;field x=1/l;}type b{const m=a.k;field x=1/a.k;}");
        C.due("of a static", y.start(0), 8);
        C.due("of a field", y.make(1, 0, 0, 0, 0), 7);
    }

    /** "Its PARENT is STARTED first". */
    private static void parentFirst() {
        MakerStarts x = C.right("type a{static field s=1;static block{mark s;}}type b:a{static field s=2;static block{mark s;}}type c:b{}type d:c{static block{mark 4;}}");
        C.due("start", x.start(3), 0);
        C.marks("from the topmost on", x, 1, 2, 4);
        for (int t = 0; t < 4; t++) {
            C.due("started " + t, x.type(t, 3), 1);
        }
        MakerStarts y = C.right("type a{static block{mark 1;}}type b:a{static block{mark 2;}}type c:a{static block{mark 3;}}");
        C.due("start of c", y.start(2), 0);
        C.due("start of b", y.start(1), 0);
        C.marks("the parent once", y, 1, 3, 2);
        MakerStarts z = C.right("type a{static block{mark 1;}}type b:a{static block{mark 2;}}");
        C.due("start of a", z.start(0), 0);
        C.marks("not those below", z, 1);
        C.due("b", z.type(1, 3), 0);
    }

    /** "then its static fields' EXPS and static blocks are done, as they stand". */
    private static void asTheyStand() {
        MakerStarts x = C.right("type a{static block{mark 1;mark a.t;}static field t=a.u+5;field x=1/0;static block{mark t;}block{mark 1/0;}static field u=t*2;static block{mark u;}maker(){mark 1/0;}}");
        C.due("start", x.start(0), 0);
        C.marks("as they stand, without what is of a thing", x, 1, 0, 5, 10);
    }

    /** "(STATICS are 0 from the text on: one without EXP keeps what it was set to till then)". */
    private static void staticsAreZeroFromTheTextOn() {
        MakerStarts x = C.right("type a{static block{s=5;t=6;}static field s;static field t=7;static field u;}");
        for (int f = 1; f <= 3; f++) {
            C.due("0 from the text on", x.held(0, f), 0);
        }
        C.due("start", x.start(0), 0);
        C.due("s keeps it", x.held(0, 1), 5);
        C.due("t does not", x.held(0, 2), 7);
        C.due("u", x.held(0, 3), 0);
        C.reads(x, "type a{static block{s=s0.k;}static field s;static field t=7;static field u;}type s0{const k=5;}");
        for (int f = 1; f <= 3; f++) {
            C.due("0 from the next text on", x.held(0, f), 0);
        }
    }

    /** "While it is under way, what asks for it goes on". */
    private static void underWayGoesOn() {
        MakerStarts x = C.right("type a{static field s=1;static block{mark b.f;}static field t=3;maker(){mark 100+s+t;}}"
                + "type b{static field f=7;static block{mark a.s;mark a.t;a.s=5;a.t=6;new a();}}"
                + "type c:a{static block{mark 300;}}");
        C.due("start", x.start(0), 0);
        C.marks("asked, set and made", x, 1, 0, 111, 7);
        C.due("s was set", x.held(0, 0), 5);
        C.due("t has its EXP at last", x.held(0, 2), 3);

        MakerStarts y = C.right("type a{static block{mark b.s;}static field t=1;}type b:a{static field s=2;static block{mark 20+a.t;}}");
        C.due("start of the parent, which asks for the one below", y.start(0), 0);
        C.marks("the parent is under way", y, 20, 2);
        C.due("b", y.type(1, 3), 1);
        MakerStarts z = C.right("type a{static block{mark b.s;}static field t=1;}type b:a{static field s=2;static block{mark 20+a.t;}}");
        C.due("start of the one below", z.start(1), 0);
        C.marks("the one below is under way when its parent asks for it", z, 0, 21);
    }

    /** "What is THROWN out of its own EXPS and blocks becomes 8". */
    private static void ownBecomesEight() {
        String[] bodies = {"if(0<1){throw 4;}", "if(0<1){throw 5;}", "if(0<1){throw 6;}", "mark 1/0;", "mark z.s;", "mark y.s;",
            "new w(1);", "new v();"};
        for (String body : bodies) {
            MakerStarts x = C.right("type y{static field s=1/0;}type z{static field s=y.s;}type w{maker(p){new w(p);}}type v{maker(){throw 5;}}"
                    + "type a{static block{" + body + "}}type b{maker(){mark y.s;}}");
            C.due("y is absent already", x.make(5, 0, 0, 0, 0), 8);
            C.due("start of a with " + body, x.start(4), 8);
            C.due("a is absent", x.type(4, 3), 2);
            C.due("a again", x.start(4), 9);
        }
        C.due("of its EXPS", C.right("type a{static field s=1;static field t=1%0;}").make(0, 0, 0, 0, 0), 8);
        C.due("not of what was taken", C.right("type a{static block{try{mark 1/0;}catch 7{}}}").start(0), 0);
        // the THING's EXPS and BODIES are not its own
        C.due("of a field", C.right("type a{field x=1/0;}").make(0, 0, 0, 0, 0), 7);
    }

    /** "out of its PARENT's STARTING it stays; either way this TYPE is ABSENT from then on". */
    private static void parentsStays() {
        MakerStarts x = C.right("type a{static field s=1/0;}type b:a{static block{mark 1;}}type c:b{}type d:a{}type e{static field t=c.s;}type f{static field t=d.s;}");
        C.due("8 through two parents", x.start(2), 8);
        for (int t = 0; t < 3; t++) {
            C.due("absent " + t, x.type(t, 3), 2);
        }
        C.due("9 of its parent", x.start(3), 9);
        C.due("absent", x.type(3, 3), 2);
        C.due("9 of a in the EXP of e becomes 8", x.start(4), 8);
        C.due("9 of a in the EXP of f becomes 8", x.make(5, 0, 0, 0, 0), 8);
        C.marks("no block of theirs", x);
    }

    /** "what asks for it again THROWS 9". */
    private static void askedAgain() {
        MakerStarts x = C.right("type a{static field s=1/0;const k=3;act f(){}maker(p){mark p;}}type b:a{maker()super(1);{}}"
                + "type c{maker(){mark a.s;}maker(p){a.s=p;}maker(p,q){new a(q);}}type d:c{}");
        C.due("8 at first", x.make(2, 0, 0, 0, 0), 8);
        for (int i = 0; i < 3; i++) {
            C.due("asked", x.make(2, 0, 0, 0, 0), 9);
            C.due("set", x.make(2, 1, 0, 0, 0), 9);
            C.due("new", x.make(2, 2, 0, 0, 0), 9);
            C.due("start", x.start(0), 9);
            C.due("make", x.make(0, 1, 0, 0, 0), 9);
            C.due("one below", x.start(1), 9);
            C.due("one below made", x.make(1, 0, 0, 0, 0), 9);
        }
        C.due("c is started all the same", x.type(2, 3), 1);
        C.due("s was never set", x.held(0, 0), 0);
        C.due("its constant", x.held(0, 1), 3);
    }

    /** b was STARTED while its PARENT was under way; that the PARENT is ABSENT then is nothing to b. */
    private static void startedBelowAnAbsentOne() {
        MakerStarts x = C.right("type a{static field s;static block{new b();if(0<1){throw 4;}}field y=3;}type b:a{block{mark 1;}maker(){}maker(p){mark s;}}");
        C.due("start of a", x.start(0), 8);
        C.due("a is absent", x.type(0, 3), 2);
        C.due("b is started", x.type(1, 3), 1);
        C.due("start of b", x.start(1), 0);
        C.due("b is made", x.make(1, 0, 0, 0, 0), 0);
        C.due("y of a", x.field(0, 2), 3);
        C.due("but what a has is not to be asked", x.make(1, 1, 0, 0, 0), 9);
        C.marks("blocks", x, 1, 1, 1);
    }

    /** "A STATIC that is asked or set .. STARTS the TYPE that has it". */
    private static void staticsStartTheTypeThatHasThem() {
        String types = "type a{static field s=5;static block{mark 1;}}type b:a{static block{mark 2;}}type c:b{static field t=6;static block{mark 3;}}";
        MakerStarts x = C.right(types + "type d{maker(){mark c.s;}maker(p){b.s=p;mark c.s;}maker(p,q){mark c.t;}}");
        C.due("c.s", x.make(3, 0, 0, 0, 0), 0);
        C.marks("a alone", x, 1, 5);
        C.due("b", x.type(1, 3), 0);
        C.due("c", x.type(2, 3), 0);
        C.due("c.t", x.make(3, 2, 0, 0, 0), 0);
        C.marks("c, its parent first", x, 1, 5, 2, 3, 6);
        MakerStarts y = C.right(types + "type d{maker(){mark c.s;}maker(p){b.s=p;mark c.s;}}");
        C.due("b.s is set", y.make(3, 1, 9, 0, 0), 0);
        C.marks("a is started ahead of that", y, 1, 9);
        C.due("s", y.held(0, 0), 9);
        C.due("held", y.type(1, 3), 0);
    }

    /** "(behind the EXP that it gets)". */
    private static void behindTheExpThatItGets() {
        MakerStarts x = C.right("type a{static field s=1;static block{mark 1;}}type b{maker(p){a.s=f()/p;}act f(){mark 2;return 8;}}type z{static field s=1/0;}"
                + "type c{maker(p){z.s=1/p;}}");
        C.due("the EXP throws", x.make(1, 1, 0, 0, 0), 7);
        C.marks("a was not asked for", x, 2);
        C.due("a", x.type(0, 3), 0);
        C.due("well", x.make(1, 1, 2, 0, 0), 0);
        C.marks("the EXP first", x, 2, 2, 1);
        C.due("s", x.held(0, 0), 4);
        C.due("7 of the EXP first", x.make(3, 1, 0, 0, 0), 7);
        C.due("then 8 of the start", x.make(3, 1, 1, 0, 0), 8);
        C.due("7 of the EXP first", x.make(3, 1, 0, 0, 0), 7);
        C.due("then 9", x.make(3, 1, 1, 0, 0), 9);
    }

    /** "new T: T is STARTED, behind its EXPS". */
    private static void newBehindItsExps() {
        MakerStarts x = C.right("type a{maker(p){new b(f(),8/p);}act f(){mark 2;return 3;}}type b{static block{mark 1;}maker(p,q){mark p+q;}}type z{static field s=1/0;maker(p){}}"
                + "type c{maker(p){new z(1/p);}}");
        C.due("the EXPS throw", x.make(0, 1, 0, 0, 0), 7);
        C.marks("b was not started", x, 2);
        C.due("b", x.type(1, 3), 0);
        C.due("well", x.make(0, 1, 2, 0, 0), 0);
        C.marks("the EXPS first", x, 2, 2, 1, 7);
        C.due("7 of the EXPS first", x.make(3, 1, 0, 0, 0), 7);
        C.due("then 8", x.make(3, 1, 1, 0, 0), 8);
        C.due("7 of the EXPS first", x.make(3, 1, 0, 0, 0), 7);
        C.due("then 9", x.make(3, 1, 1, 0, 0), 9);
    }

    /** "then a THING of T, all FIELDS 0". */
    private static void allFieldsZero() {
        MakerStarts x = C.right("type a{field x;field y;maker(p){x=x+p;y=y+x;}}type b:a{field z;maker(p)super(p);{z=z+p;}}");
        for (int i = 1; i <= 3; i++) {
            C.due("make", x.make(1, 1, i, 0, 0), 0);
            C.due("x", x.field(0, 0), i);
            C.due("y", x.field(0, 1), i);
            C.due("z", x.field(1, 0), i);
        }
        C.due("a alone", x.make(0, 1, 9, 0, 0), 0);
        C.due("x", x.field(0, 0), 9);
    }

    private static void fieldsKeepWhatTheyWereSetTo() {
        MakerStarts x = C.right("type a{block{x=5;y=6;}field x;field y=7;field z=f();act f(){w=8;}field w;}");
        C.due("make", x.make(0, 0, 0, 0, 0), 0);
        C.due("without EXP", x.field(0, 1), 5);
        C.due("with EXP", x.field(0, 2), 7);
        C.due("set by an act that came early", x.field(0, 5), 8);
    }

    /** "with this: that EXPS, that MAKER, then its BODY". */
    private static void makersOfThis() {
        MakerStarts x = C.right("type a{field x=1;block{mark 1;}maker(){mark 2;x=x*10;}maker(p)this();{mark 3;x=x+p;}maker(p,q)this(p*q);{mark 4;x=x+p;p=0;}"
                + "maker(p,q,r)this(q,r);{mark 5;x=x*2+p;}block{mark 6;}}");
        C.due("make", x.make(0, 3, 100, 3, 4), 0);
        C.marks("fields and blocks once, by the last of them", x, 1, 6, 2, 3, 4, 5);
        C.due("x", x.field(0, 0), (10 + 12 + 3) * 2 + 100);
        MakerStarts y = C.right("type a{maker(p){p=99;}maker(p,q)this(p);{mark p;p=7;mark p+q;}}");
        C.due("make", y.make(0, 2, 1, 2, 0), 0);
        C.marks("each maker has its own parameters", y, 1, 9);
    }

    /** "else super's EXPS, that MAKER of the PARENT, then EXPS of FIELDS and BLOCKS of its TYPE as they stand, then its BODY". */
    private static void makersOfSuper() {
        MakerStarts x = C.right("type a{field x=f();act f(){mark 2;return 1;}maker(p){mark p;}maker(){mark 4;}}"
                + "type b:a{block{mark 5;}field y=g();act g(){mark 6;return 1;}block{mark 7;}maker(p)super(c.s);{mark 8;}maker(){mark 9;}}"
                + "type c{static field s=3;static block{mark 1;}}");
        C.due("make", x.make(1, 1, 0, 0, 0), 0);
        C.marks("super's EXPS first", x, 1, 2, 3, 5, 6, 7, 8);
        C.due("make", x.make(1, 0, 0, 0, 0), 0);
        C.marks("super without any, if none is told", x, 1, 2, 3, 5, 6, 7, 8, 2, 4, 5, 6, 7, 9);
        MakerStarts y = C.right("type a{maker(){throw 4;}}type b:a{field y=5;block{mark 1;}maker(){mark 2;}}");
        C.due("super throws", y.make(1, 0, 0, 0, 0), 4);
        C.marks("nothing of its own is done", y);
        C.due("y", y.field(1, 0), 0);
        C.due("the thing came all the same", y.told(3), 1);
    }

    /** "(A TYPE without makers: likewise, no BODY.)". */
    private static void typesWithoutMakers() {
        MakerStarts x = C.right("type a{maker(){mark 1;}}type b:a{field x=f();act f(){mark 2;return 5;}block{mark 3;}}type c:b{block{mark 4;}}");
        C.due("make", x.make(2, 0, 0, 0, 0), 0);
        C.marks("likewise", x, 1, 2, 3, 4);
        C.due("x", x.field(1, 0), 5);
        MakerStarts y = C.right("type a{}");
        C.due("nothing at all", y.make(0, 0, 0, 0, 0), 0);
        C.due("a STEP", y.told(4), 1);
        C.due("a THING", y.told(3), 1);
    }

    /** "the ACT of that NAME that the THING's own TYPE has, or the next one above that has it, on that THING". */
    private static void actsOfTheThing() {
        MakerStarts x = C.right("type a{field x=3;act f(){return x;}act g(){return f()*10;}maker(){mark f();mark g();}}"
                + "type b:a{field x=4;act f(){return x+100;}}type c:b{}type d:c{field y=7;act g(){return f()+y;}maker(){mark g();}}");
        C.due("a", x.make(0, 0, 0, 0, 0), 0);
        C.marks("of a", x, 3, 30);
        C.due("c", x.make(2, 0, 0, 0, 0), 0);
        C.marks("of b, which sees its zero", x, 3, 30, 100, 1000);
        C.due("d", x.make(3, 0, 0, 0, 0), 0);
        C.marks("of d and b", x, 3, 30, 100, 1000, 100, 100, 111);
        // a field of the same NAME does not hide an act
        MakerStarts y = C.right("type a{act f(){return 1;}}type b:a{field f=2;block{mark f();mark f;}}");
        C.due("b", y.make(1, 0, 0, 0, 0), 0);
        C.marks("both", y, 1, 2);
    }

    /** "its return's number; 0 without one (its BODY may end)". */
    private static void actsWithoutReturn() {
        MakerStarts x = C.right("type a{field x;act f(){}act g(){x=5;}act h(){if(x<5){return 9;}}act i(){return 7;mark 1;}"
                + "maker(){mark 1+f();mark h();mark 2-g();mark h();mark i();}}");
        C.due("make", x.make(0, 0, 0, 0, 0), 0);
        C.marks("0 without a return", x, 1, 9, 2, 0, 7);
        MakerStarts y = C.right("type a{act f(){return p0.k;}act g(){return -f()*f();}maker(){mark g()+(f()-g())*2;}}type p0{const k=3;}");
        C.due("make", y.make(0, 0, 0, 0, 0), 0);
        C.marks("within EXPS", y, -9 + 24);
    }

    private static void thingsWithinThings() {
        MakerStarts x = C.right("type a{field x;act f(){return x;}maker(p){x=p;if(0<p){new a(p-1);mark f();mark x;}}}");
        C.due("make", x.make(0, 1, 3, 0, 0), 0);
        C.marks("each has its own fields", x, 1, 1, 2, 2, 3, 3);
        C.due("the first one's", x.field(0, 0), 3);
        MakerStarts y = C.right("type a{field x=1;act f(){x=x+1;new b();x=x+1;return x;}maker(){mark f();}}type b{field y=5;act f(){y=y+1;return y;}block{mark f();}}");
        C.due("make", y.make(0, 0, 0, 0, 0), 0);
        C.marks("an act that makes another goes on with its own", y, 6, 3);
        C.due("x", y.field(0, 0), 3);
        MakerStarts z = C.right("type a{field x=1;maker(){try{new b();}catch 4{mark x;}x=x+1;}}type b{field y=5;maker(){y=y+1;throw 4;}}");
        C.due("make", z.make(0, 0, 0, 0, 0), 0);
        C.marks("behind one that threw", z, 1);
        C.due("x", z.field(0, 0), 2);
    }
}
