/** "2 MAKING", its last sentences: marks that are kept, STEPS, what is SPENT, and 11. */
public final class StepsTest {
    private static final Checks C = new Checks();

    public static void main(String[] args) {
        eachSThatIsBegun();
        eachNewAndAct();
        noSteps();
        stepsOfStarts();
        justAllSteps();
        oneSTooMany();
        oneActTooMany();
        oneNewTooMany();
        spentInStart();
        noCatchNoFinally();
        typesUnderWayAreAbsent();
        typesThatMadeOfThemselves();
        nothingIsLeftOfTheSpent();
        twentyFourMakers();
        twentyFourActs();
        thisAndSuperCount();
        behindTheirExps();
        newBehindItsStart();
        noCatchTakesEleven();
        elevenInStart();
        elevenAheadOfTheStep();
        stepsAheadOfElevenOfNew();
        startsCountNot();
        marksKept();
        C.end();
    }

    private static int stepsOf(String body) {
        MakerStarts x = C.right("type a{field x;static field s;act f(){}act g(){return 1;}maker(p){" + body + "}}type b{}");
        x.make(0, 1, 0, 0, 0);
        return x.told(4);
    }

    /** "Each S that is begun .. is a STEP"; the new of make() is one itself. */
    private static void eachSThatIsBegun() {
        C.due("none", stepsOf(""), 1);
        C.due("a set", stepsOf("x=1;"), 2);
        C.due("a static set", stepsOf("a.s=1;"), 2);
        C.due("a parameter set", stepsOf("p=1;"), 2);
        C.due("a mark", stepsOf("mark 1;"), 2);
        C.due("a throw", stepsOf("throw 4;"), 2);
        C.due("what is behind a throw is not begun", stepsOf("throw 4;mark 1;mark 1;"), 2);
        C.due("begun, though its EXP throws", stepsOf("mark 1/0;"), 2);
        C.due("an if", stepsOf("if(0<1){}"), 2);
        C.due("an if and its BODY", stepsOf("if(0<1){mark 1;}else{mark 2;mark 3;}"), 3);
        C.due("an if and its else", stepsOf("if(1<0){mark 1;}else{mark 2;mark 3;}"), 4);
        C.due("an if that is not taken", stepsOf("if(1<0){mark 1;}"), 2);
        C.due("a try", stepsOf("try{}finally{}"), 2);
        C.due("a try and its BODY", stepsOf("try{mark 1;}catch 4{mark 2;}"), 3);
        C.due("a try, its BODY, catch and finally", stepsOf("try{throw 4;mark 0;}catch 4{mark 2;}finally{mark 3;}mark 4;"), 6);
        MakerStarts x = C.right("type a{block{mark 1;mark 2;}block{mark 3;}maker(){mark 4;}}type b:a{block{mark 5;}}");
        x.make(1, 0, 0, 0, 0);
        C.due("S of blocks", x.told(4), 6);
    }

    /** "each new (ahead of its STARTING), each ACT that is called". */
    private static void eachNewAndAct() {
        C.due("new", stepsOf("new b();"), 3);
        C.due("two new", stepsOf("new b();new b();"), 5);
        C.due("an act", stepsOf("x=f();"), 3);
        C.due("an act with a return", stepsOf("x=g();"), 4);
        C.due("acts", stepsOf("x=f()+f()+g();"), 6);
        C.due("an act of an if", stepsOf("if(f()<g()){}"), 5);
        MakerStarts x = C.right("type a{act f(){}field x=f()+f();static field s=1/0;}type b{act f(){}field x=f()+f();}");
        C.due("b", x.make(1, 0, 0, 0, 0), 0);
        C.due("acts of a field's EXP", x.told(4), 3);
        C.due("the start of a fails", x.make(0, 0, 0, 0, 0), 8);
        C.due("the new ahead of it", x.told(4), 1);
        C.due("a is absent", x.make(0, 0, 0, 0, 0), 9);
        C.due("the new ahead of it", x.told(4), 1);
    }

    private static void noSteps() {
        MakerStarts x = C.right("type a{field x=1+2;maker()this(1);{}maker(p)this(1,p);{}maker(p,q){}}type b:a{field y=3;}type c:b{}");
        x.make(2, 0, 0, 0, 0);
        C.due("this, super and fields are no STEPS", x.told(4), 1);
    }

    private static void stepsOfStarts() {
        MakerStarts x = C.right("type a{static field s=1;static block{mark 1;mark 2;}}type b:a{static block{mark 3;}}type c{static field s=b.s;}");
        C.due("0 before", x.told(4), 0);
        x.make(1, 0, 0, 0, 0);
        C.due("new, and the S of both starts", x.told(4), 4);
        x.make(1, 0, 0, 0, 0);
        C.due("new alone", x.told(4), 1);
        x.start(2);
        C.due("no S at all", x.told(4), 0);
        C.reads(x, "type a{static block{mark 1;mark 2;}}type b:a{static block{mark 3;}}");
        x.start(1);
        C.due("S of both starts", x.told(4), 3);
        x.start(1);
        C.due("started already", x.told(4), 0);
    }

    /** In t: ten STEPS each time; behind the first line of the maker 112 STEPS are done. */
    private static final String TENS = "field x;act t(){" + Checks.repeat("x=1;", 9) + "}act h(){}"
            + "maker(){x=t()+t()+t()+t()+t()+t()+t()+t()+t()+t()+t();";

    private static MakerStarts spends(int answer, String body, String others) {
        MakerStarts x = C.right("type a{" + TENS + body + "}}" + others);
        C.due("make of " + body, x.make(0, 0, 0, 0, 0), answer);
        C.due("steps of " + body, x.told(4), 120);
        C.due("it came", x.told(3), 1);
        return x;
    }

    /** "120 in all: behind these it is SPENT". */
    private static void justAllSteps() {
        spends(0, Checks.repeat("x=1;", 8), "");
        spends(0, Checks.repeat("x=1;", 6) + "x=h();", "");
        spends(0, Checks.repeat("x=1;", 6) + "new b();", "type b{field x=1;}");
        spends(7, Checks.repeat("x=1;", 7) + "x=1/0;", "");
        spends(4, Checks.repeat("x=1;", 7) + "throw 4;", "");
        spends(0, Checks.repeat("x=1;", 5) + "new b();", "type b{static block{mark 1;}}");
        spends(0, Checks.repeat("x=1;", 4) + "try{throw 4;}catch 4{x=1;}finally{x=2;}", "");
    }

    private static void oneSTooMany() {
        spends(12, Checks.repeat("x=1;", 8) + "x=7;", "");
        C.due("the last is not done", spends(12, Checks.repeat("x=1;", 8) + "x=7;", "").field(0, 0), 1);
        C.marks("a mark", spends(12, Checks.repeat("x=1;", 7) + "mark 1;mark 2;", ""), 1);
        spends(12, Checks.repeat("x=1;", 8) + "throw 4;", "");
        spends(12, Checks.repeat("x=1;", 8) + "if(0<1){}", "");
        spends(12, Checks.repeat("x=1;", 8) + "try{}finally{}", "");
        spends(12, Checks.repeat("x=1;", 7) + "if(0<1){x=1;}", "");
        spends(12, Checks.repeat("x=1;", 6) + "try{throw 4;}catch 4{x=1;}", "");
        spends(12, Checks.repeat("x=1;", 7) + "try{}finally{x=1;}", "");
    }

    private static void oneActTooMany() {
        spends(12, Checks.repeat("x=1;", 7) + "x=h();", "");
        spends(12, Checks.repeat("x=1;", 6) + "x=h()+h();", "");
        spends(12, Checks.repeat("x=1;", 7) + "if(0<h()){}", "");
    }

    /** "each new (ahead of its STARTING)". */
    private static void oneNewTooMany() {
        MakerStarts x = spends(12, Checks.repeat("x=1;", 7) + "new b();", "type b{}");
        C.due("b was not started any more", x.type(1, 3), 0);
        C.due("b can be started", x.start(1), 0);
        MakerStarts y = spends(12, Checks.repeat("x=1;", 6) + "new b();", "type b{static block{mark 1;}}");
        C.due("b was under way", y.type(1, 3), 2);
        MakerStarts z = spends(12, Checks.repeat("x=1;", 6) + "new b();", "type b{static field s=1;block{mark 1;}}");
        C.due("b was started", z.type(1, 3), 1);
    }

    private static void spentInStart() {
        String ahead = "type b{act t(){" + Checks.repeat("a.s=1;", 9) + "}field x=t()+t()+t()+t()+t()+t()+t()+t()+t()+t()+t();}";
        MakerStarts x = C.right(ahead + "type a{static field s;static block{new b();" + Checks.repeat("s=2;", 8) + "}}");
        C.due("just all", x.start(1), 0);
        C.due("120", x.told(4), 120);
        C.due("started", x.type(1, 3), 1);
        MakerStarts y = C.right(ahead + "type a{static field s;static block{new b();" + Checks.repeat("s=2;", 8) + "s=3;}}");
        C.due("one too many", y.start(1), 12);
        C.due("120", y.told(4), 120);
        C.due("absent", y.type(1, 3), 2);
        C.due("what was set stays", y.held(1, 0), 2);
        C.due("asked again", y.start(1), 9);
        C.due("no STEPS then", y.told(4), 0);
    }

    /** "SPENT (no catch, no finally". */
    private static void noCatchNoFinally() {
        for (int k = 4; k <= 9; k++) {
            MakerStarts x = spends(12, "try{" + Checks.repeat("x=1;", 9) + "}catch " + k + "{mark 1;}finally{mark 2;}mark 3;", "");
            C.marks("neither", x);
        }
        MakerStarts y = spends(12, "x=u();}act u(){try{" + Checks.repeat("x=1;", 9) + "}finally{mark 2;return 5;}", "");
        C.marks("none in acts", y);
    }

    /** "TYPES under way are ABSENT then)". */
    private static void typesUnderWayAreAbsent() {
        String spender = "type w{act t(){" + Checks.repeat("n.s=1;", 9) + "}field x=t()+t()+t()+t()+t()+t()+t()+t()+t()+t()+t()+t();}type n{static field s;}";
        MakerStarts x = C.right("type a{static field s=b.s;}type b{static field s=c.s;}type p{}type c:p{static field s;static block{new w();}}"
                + "type z{}" + spender);
        C.due("spent", x.start(0), 12);
        int[] states = {2, 2, 1, 2, 0, 1, 1};
        for (int t = 0; t < states.length; t++) {
            C.due("state of " + t, x.type(t, 3), states[t]);
        }
        for (int t : new int[] {0, 1, 3}) {
            C.due("asked again " + t, x.start(t), 9);
            C.due("made " + t, x.make(t, 0, 0, 0, 0), 9);
        }
        MakerStarts y = C.right("type a{static block{new w();}}type b:a{static block{mark 1;}}type c:b{}" + spender);
        C.due("spent", y.make(2, 0, 0, 0, 0), 12);
        for (int t = 0; t < 3; t++) {
            C.due("absent by its parent's start too: " + t, y.type(t, 3), 2);
        }
        C.due("no thing came", y.told(3), 0);
        C.dueThrow("no thing", () -> y.field(0, 0), Checks.STATE);
    }

    /** A TYPE stays under way though makers and acts of its own have ended meanwhile. */
    private static void typesThatMadeOfThemselves() {
        String spend = Checks.repeat("new a(1);", 40);
        MakerStarts x = C.right("type a{static block{new a(1);" + spend + "}maker(p){mark f();}act f(){}}");
        C.due("spent", x.start(0), 12);
        C.due("it was under way all the time", x.type(0, 3), 2);
        MakerStarts y = C.right("type a{static block{new a();mark b.s;}}type b{static field s;static block{new a();}}");
        C.due("well", y.start(0), 0);
        C.due("a", y.type(0, 3), 1);
        C.due("b", y.type(1, 3), 1);
    }

    private static void nothingIsLeftOfTheSpent() {
        MakerStarts x = C.right("type a{field n;field e;field r;act f(){n=n+1;if(n<e){r=1+(2+(3+(4*f())));}else{try{" + Checks.repeat("r=5;", 40)
                + "}catch 4{r=6;}finally{r=7;}}}"
                + "maker(p){e=p;try{r=1+(2*(3+f()));}catch 5{r=8;}}maker(){throw 4;}maker(p,q){throw 5;}}type b{const k=3+(4*(5-1));field x=k;}");
        for (int i = 0; i < 30; i++) {
            C.due("spent", x.make(0, 1, 20, 0, 0), 12);
            C.due("n of the spent", x.field(0, 0), 20);
            C.due("no catch of the spent one", x.make(0, 2, 0, 0, 0), 5);
            C.due("spent", x.make(0, 1, 20, 0, 0), 12);
            C.due("no finally of the spent one", x.make(0, 0, 0, 0, 0), 4);
            C.due("spent", x.make(0, 1, 20, 0, 0), 12);
            C.due("well", x.make(0, 1, 5, 0, 0), 0);
            C.due("n", x.field(0, 0), 5);
            C.due("r", x.field(0, 2), 7);
            C.due("spent", x.make(0, 1, 20, 0, 0), 12);
            C.due("b", x.make(1, 0, 0, 0, 0), 0);
            C.due("x of b", x.field(1, 1), 19);
        }
        C.due("spent", x.make(0, 1, 20, 0, 0), 12);
        C.reads(x, "type a{const k=2+(3*4);static field s=k;const l=k*(k-1);maker(p){mark k+l;}}");
        C.due("k of the next text", x.held(0, 0), 14);
        C.due("l of the next text", x.held(0, 2), 14 * 13);
        C.due("s of the next text", x.held(0, 1), 0);
        C.due("make", x.make(0, 1, 0, 0, 0), 0);
        C.marks("of the next text", x, 14 + 14 * 13);
    }

    /** "11 is THROWN if 24 MAKERS .. and ACTS are under way and one more is to be". */
    private static void twentyFourMakers() {
        MakerStarts x = C.right("type a{field x;maker(p,n){x=p;if(p<n){new a(p+1,n);}}}");
        C.due("one", x.make(0, 2, 1, 1, 0), 0);
        C.due("24", x.make(0, 2, 1, 24, 0), 0);
        C.due("25", x.make(0, 2, 1, 25, 0), 11);
        C.due("the first one's field", x.field(0, 0), 1);
        C.due("STEPS: new, and of each of 24 two S, and new as S and as new", x.told(4), 1 + 24 * 2 + 24 + 24);
        C.due("24 again", x.make(0, 2, 1, 24, 0), 0);
        C.due("STEPS", x.told(4), 1 + 24 * 2 + 23 * 2);
    }

    private static void twentyFourActs() {
        MakerStarts x = C.right("type a{field x;field y;act f(){x=x+1;if(x<y){return f();}}maker(p){y=p;x=f()*0+x;}}");
        C.due("one", x.make(0, 1, 1, 0, 0), 0);
        C.due("23 and their maker", x.make(0, 1, 23, 0, 0), 0);
        C.due("24 and their maker", x.make(0, 1, 24, 0, 0), 11);
        C.due("23 were under way", x.field(0, 0), 23);
        MakerStarts y = C.right("type a{field x;act f(){}maker(){x=" + Checks.repeat("f()+", 99) + "f();}}");
        C.due("a hundred, one behind the other", y.make(0, 0, 0, 0, 0), 0);
        C.due("STEPS", y.told(4), 102);
        MakerStarts w = C.right("type a{static field n;maker(p){if(0<p){n=p;n=f();}}act f(){new a(n-1);return n;}}");
        C.due("by turns: 12 makers, 12 acts, one more maker", w.make(0, 1, 12, 0, 0), 11);
        C.due("12 makers, 11 acts", w.make(0, 1, 11, 0, 0), 0);
    }

    /** "24 MAKERS (those of this, super, too)". */
    private static void thisAndSuperCount() {
        String chain = "type a{maker(p,n){if(p<n){new a(p+1,n);}else{new b(1,2,3);}}}";
        String others = "type b{maker()super();{mark 1;}maker(p)this();{}maker(p,q)this(1);{}maker(p,q,r)this(1,2);{}}";
        MakerStarts x = C.right(chain + others);
        C.due("20 and four", x.make(0, 2, 1, 20, 0), 0);
        C.marks("the last of the four", x, 1);
        C.due("21 and four", x.make(0, 2, 1, 21, 0), 11);
        C.marks("the last was not reached", x, 1);

        StringBuilder b = new StringBuilder("type c{block{mark 1;}}");
        for (int i = 1; i < 7; i++) {
            b.append("type c").append(i).append(":c").append(i == 1 ? "" : "" + (i - 1)).append("{}");
        }
        MakerStarts y = C.right(b + "type a{maker(p,n){if(p<n){new a(p+1,n);}else{new c6();}}}");
        C.due("17 and seven without makers", y.make(7, 2, 1, 17, 0), 0);
        C.marks("the block of the first", y, 1);
        C.due("18 and seven", y.make(7, 2, 1, 18, 0), 11);
        C.marks("was not reached", y, 1);
    }

    /** "of this, super behind their EXPS, without a STEP". */
    private static void behindTheirExps() {
        String chain = "type a{maker(p,n){if(p<n){new a(p+1,n);}else{new b(n,0);}}}";
        MakerStarts x = C.right(chain + "type b{maker(p){mark 2;}maker(p,q)this(c.s);{}}type c{static field s=1;static block{mark 1;}}");
        C.due("23 and two", x.make(0, 2, 1, 23, 0), 11);
        C.marks("the EXPS of this first", x, 1);
        C.due("STEPS: new, an if each, new twice each, a mark", x.told(4), 1 + 23 + 46 + 1);
        MakerStarts y = C.right(chain + "type d{maker(p){mark 2;}}type b:d{maker(p,q)super(c.s/q);{}}type c{static field s=1;}");
        C.due("7 of the EXPS of super first", y.make(0, 2, 1, 23, 0), 7);
        MakerStarts z = C.right(chain + "type d{maker(p){mark 2;}}type b:d{maker(p,q)super(c.s);{}}type c{static field s=1;static block{mark 1;}}");
        C.due("22 and two", z.make(0, 2, 1, 22, 0), 0);
        C.marks("well", z, 1, 2);
        C.due("23 and two", z.make(0, 2, 1, 23, 0), 11);
    }

    /** "of new behind its STEP, its STARTING, as its MAKER is to be". */
    private static void newBehindItsStart() {
        MakerStarts x = C.right("type a{maker(p,n){if(p<n){new a(p+1,n);}else{new b();}}}type b{static block{mark 1;}block{mark 2;}}");
        C.due("24 and one", x.make(0, 2, 1, 24, 0), 11);
        C.marks("started all the same", x, 1);
        C.due("b is started", x.type(1, 3), 1);
        C.due("STEPS: that of new and of its start too", x.told(4), 1 + 24 + 48 + 1);
        MakerStarts y = C.right("type a{maker(p,n){if(p<n){new a(p+1,n);}else{new b();}}}type b{static field s=1/0;}");
        C.due("its start fails first", y.make(0, 2, 1, 24, 0), 8);
        C.due("absent first", y.make(0, 2, 1, 24, 0), 9);
    }

    private static void noCatchTakesEleven() {
        for (int k = 4; k <= 9; k++) {
            MakerStarts x = C.right("type a{maker(p){if(p<24){new a(p+1);}else{try{new a(p);}catch " + k + "{mark 1;}finally{mark 2;}}}}");
            C.due("11 comes out", x.make(0, 1, 1, 0, 0), 11);
            C.marks("finally alone", x, 2);
        }
        MakerStarts y = C.right("type a{field x;act f(){x=x+1;try{x=f();}finally{return x;}}maker(){mark f();}}");
        C.due("a return counts instead", y.make(0, 0, 0, 0, 0), 0);
        C.marks("23 acts", y, 23);
    }

    private static void elevenInStart() {
        MakerStarts x = C.right("type a{static block{new b(1);}}type b{maker(p){mark p;new b(p+1);}}");
        C.due("11 becomes 8", x.start(0), 8);
        C.due("24 makers", x.told(1), 24);
        C.due("a is absent", x.type(0, 3), 2);
        C.due("b is not", x.type(1, 3), 1);
        C.due("11 of b itself", x.make(1, 1, 1, 0, 0), 11);
    }

    /** 22 acts under way behind 89 STEPS, the 23rd of them behind 91 and those of the fillers. */
    private static String deepest(int first, int second, String last) {
        return "type a{field x;field y;act f(){x=x+1;if(x<22){y=f();}else{" + Checks.repeat("y=1;", first) + "y=g();}}"
                + "act g(){" + Checks.repeat("y=2;", second) + last + "}act h(){mark 1;}maker(){y=f();}}type b{static field s=1;}";
    }

    /** "is a STEP (behind 11)": of an ACT 11 comes first. */
    private static void elevenAheadOfTheStep() {
        MakerStarts x = C.right(deepest(14, 14, "y=h();"));
        C.due("11, though all STEPS are done", x.make(0, 0, 0, 0, 0), 11);
        C.due("120", x.told(4), 120);
        MakerStarts y = C.right(deepest(14, 15, "y=h();"));
        C.due("spent ahead of it", y.make(0, 0, 0, 0, 0), 12);
        C.due("120", y.told(4), 120);
        MakerStarts z = C.right(deepest(10, 10, "y=h();"));
        C.due("11 is no STEP", z.make(0, 0, 0, 0, 0), 11);
        C.due("112", z.told(4), 112);
    }

    private static void stepsAheadOfElevenOfNew() {
        MakerStarts x = C.right(deepest(14, 14, "new b();"));
        C.due("spent by the new", x.make(0, 0, 0, 0, 0), 12);
        C.due("b was not started", x.type(1, 3), 0);
        MakerStarts y = C.right(deepest(14, 13, "new b();"));
        C.due("the new is the last STEP", y.make(0, 0, 0, 0, 0), 11);
        C.due("120", y.told(4), 120);
        C.due("b was started", y.type(1, 3), 1);
    }

    /** Eight starts within one another, and 24 makers within the last of them. */
    private static void startsCountNot() {
        StringBuilder b = new StringBuilder();
        for (int i = 0; i < 7; i++) {
            b.append("type t").append(i).append("{static field s;static block{mark t").append(i + 1).append(".s;}}");
        }
        MakerStarts x = C.right(b + "type t7{static field s=5;static block{new t7(1);}maker(p){mark p;if(p<24){new t7(p+1);}}}");
        C.due("well", x.start(0), 0);
        C.due("marks", x.told(1), 24 + 7);
        C.due("the 24th", x.marked(23), 24);
        C.due("s of the last", x.marked(24), 5);
        for (int t = 0; t < 8; t++) {
            C.due("started " + t, x.type(t, 3), 1);
        }
        MakerStarts y = C.right(b + "type t7{static field s=5;static block{new t7(1);}maker(p){mark p;if(p<25){new t7(p+1);}}}");
        C.due("11 becomes 8", y.start(0), 8);
        C.due("marks", y.told(1), 24);
        for (int t = 0; t < 8; t++) {
            C.due("absent " + t, y.type(t, 3), 2);
        }
    }

    /** "mark x: x is MARKED (200 at most are kept)". */
    private static void marksKept() {
        MakerStarts x = C.right("type a{maker(p){" + Checks.repeat("mark p;p=p+1;", 33) + "}maker(p,q){mark p;}}type b{static block{mark 9;}}");
        for (int i = 0; i < 6; i++) {
            C.due("33 marks", x.make(0, 1, 33 * i, 0, 0), 0);
        }
        C.due("198", x.told(1), 198);
        C.due("one more", x.make(0, 2, 198, 0, 0), 0);
        C.due("199", x.told(1), 199);
        C.dueThrow("none yet", () -> x.marked(199), Checks.INDEX);
        C.due("one more", x.make(0, 2, 199, 0, 0), 0);
        C.due("200", x.told(1), 200);
        C.due("the last", x.marked(199), 199);
        C.due("one more", x.make(0, 2, 77, 0, 0), 0);
        C.due("one more by a start", x.start(1), 0);
        C.due("it is a STEP all the same", x.told(4), 1);
        C.due("200", x.told(1), 200);
        C.due("the last is as it was", x.marked(199), 199);
        C.due("the first too", x.marked(0), 0);
        C.dueThrow("none above", () -> x.marked(200), Checks.INDEX);
    }
}
