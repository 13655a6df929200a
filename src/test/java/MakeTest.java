/** Promise 7 (make): the order of making, acts, tries, steps, and what is THROWN. */
public final class MakeTest {
    private static final Checks C = new Checks();

    public static void main(String[] args) {
        order();
        otherMakers();
        actsTooEarly();
        arithmetic();
        parameters();
        names();
        branches();
        tries();
        returns();
        startOfNew();
        steps();
        spent();
        deep();
        deepOfOthers();
        refusals();
        C.end();
    }

    private static void order() {
        MakerStarts x = C.right("type a{static block{mark 1;}field x=f();act f(){mark 3;}block{mark 4;}maker(p){mark 5;}}"
                + "type b:a{static block{mark 2;}block{mark 6;}field y=g();maker()super(b.e);{mark 8;}static field e;act g(){mark 7;}}");
        C.due("make", x.make(1, 0, 0, 0, 0), 0);
        C.marks("parent first, then fields and blocks as they stand, then the body", x, 1, 2, 3, 4, 5, 6, 7, 8);
    }

    private static void otherMakers() {
        MakerStarts x = C.right("type a{field x=1;block{mark 10;}maker()this(x0.k+1);{mark 30;x=x+100;}maker(p){mark 20+p;x=x+p;}}"
                + "type x0{const k=4;}");
        C.due("make with this", x.make(0, 0, 0, 0, 0), 0);
        C.marks("fields and blocks once, then the other body, then its own", x, 10, 25, 30);
        C.due("x", x.field(0, 0), 106);

        MakerStarts y = C.right("type a{maker(p,q){mark p;mark q;}}type b:a{maker(p)super(p,p*2);{mark 3;}}type c:b{maker()super(7);{}}");
        C.due("make with super", y.make(2, 0, 0, 0, 0), 0);
        C.marks("super's EXPS", y, 7, 14, 3);

        MakerStarts z = C.right("type a{block{mark 1;}}type b:a{block{mark 2;}}type c:b{block{mark 3;}maker(){mark 4;}}");
        C.due("make without this and super", z.make(2, 0, 0, 0, 0), 0);
        C.marks("types without makers", z, 1, 2, 3, 4);
    }

    private static void actsTooEarly() {
        MakerStarts x = C.right("type a{maker(){mark f();}act f(){return 1;}}"
                + "type b:a{field y=5;field z;maker(){mark f();mark z;}act f(){z=7;return y;}}");
        C.due("make", x.make(1, 0, 0, 0, 0), 0);
        C.marks("the act of the thing's own type sees a zero", x, 0, 5, 7);
        C.due("y", x.field(1, 0), 5);

        MakerStarts y = C.right("type a{act f(){return 1;}block{mark f();mark g();}act g(){return f()+10;}}"
                + "type b:a{}type c:b{act f(){return 2;}}");
        C.due("make of b", y.make(1, 0, 0, 0, 0), 0);
        C.due("make of c", y.make(2, 0, 0, 0, 0), 0);
        C.marks("the next one above that has it", y, 1, 11, 2, 12);

        MakerStarts z = C.right("type a{maker(){mark f();}act f(){z=3;}field z=4;}type b:a{field y;maker(){mark y;}act f(){y=8;}}");
        C.due("make of b", z.make(1, 0, 0, 0, 0), 0);
        C.reads(z, "type a{field x;act f(){x=f0.k;}maker(p){mark p+f()*7-f();if(0<p){x=p/f();}}}type f0{const k=2;}");
        C.due("make with 0 of an act", z.make(0, 1, 5, 0, 0), 7);
        C.marks("acts without return", z, 5);
        C.reads(z, "type a{maker(){mark f();}act f(){z=3;}field z=4;}type b:a{field y;maker(){mark y;}act f(){y=8;}}");
        C.due("make of b", z.make(1, 0, 0, 0, 0), 0);
        C.marks("an act without return gives 0; a field without EXP keeps what it was set to", z, 0, 8);
        C.due("make of a", z.make(0, 0, 0, 0, 0), 0);
        C.due("z was set by the act behind its EXP", z.field(0, 2), 3);
    }

    private static int exp(String exp, int p, int q) {
        MakerStarts x = C.right("type a{maker(p,q){mark " + exp + ";}}");
        int answer = x.make(0, 2, p, q, 0);
        return answer == 0 ? x.marked(0) : -1000000 - answer;
    }

    private static void arithmetic() {
        C.due("left to right", exp("10-4-3", 0, 0), 3);
        C.due("* first", exp("1+2*3-4/2", 0, 0), 5);
        C.due("in brackets", exp("(1+2)*3", 0, 0), 9);
        C.due("minus of a factor", exp("-2*-3--1", 0, 0), 7);
        C.due("/ goes towards 0", exp("p/q", -7, 2), -3);
        C.due("% has the sign of the left one", exp("p%q", -7, 2), -1);
        C.due("% of a negative right one", exp("p%q", 7, -2), 1);
        C.due("/ and % of one rank", exp("100/7%4*2", 0, 0), 4);
        C.due("the least by -1", exp("p/q", Integer.MIN_VALUE, -1), Integer.MIN_VALUE);
        C.due("the rest of that", exp("p%q", Integer.MIN_VALUE, -1), 0);
        C.due("minus the least", exp("-p", Integer.MIN_VALUE, 0), Integer.MIN_VALUE);
        C.due("+ wraps", exp("p+q", Integer.MAX_VALUE, 1), Integer.MIN_VALUE);
        C.due("- wraps", exp("p-q", Integer.MIN_VALUE, 1), Integer.MAX_VALUE);
        C.due("* wraps", exp("p*q", 65536, 65537), 65536);
        C.due("/ by 0", exp("p/q", 1, 0), -1000007);
        C.due("% by 0", exp("p%q", 1, 0), -1000007);
        C.due("0 / 0", exp("p/q", 0, 0), -1000007);

        MakerStarts x = C.right("type a{act f(){mark 1;return 2;}act g(){mark 2;return 3;}act h(){mark 3;return 0;}"
                + "maker(){mark f()-g()/h();}}");
        C.due("thrown at last", x.make(0, 0, 0, 0, 0), 7);
        C.marks("EXPS go from the left to the right", x, 1, 2, 3);
    }

    private static void parameters() {
        MakerStarts x = C.right("type a{field s;maker(){mark 0;}maker(p){mark p;}maker(p,q){mark p-q;}maker(p,q,s){p=p+1;s=s*2;mark p*100+q*10+s;}}");
        C.due("none", x.make(0, 0, 1, 2, 3), 0);
        C.due("one", x.make(0, 1, 1, 2, 3), 0);
        C.due("two", x.make(0, 2, 1, 2, 3), 0);
        C.due("three", x.make(0, 3, 1, 2, 3), 0);
        C.marks("parameters", x, 0, 1, -1, 226);
        C.due("a parameter stands ahead of a field", x.field(0, 0), 0);
    }

    private static void names() {
        MakerStarts x = C.right("type a{static field s=1;field x=2;const k=3;act f(){return x;}}"
                + "type b:a{field x=20;maker(){mark s+x+k;mark f();s=9;b.s=b.s+1;mark a.s;}}"
                + "type c:b{const s=50;field k=60;maker(){mark s+x+k+c.k+c.s;}}");
        C.due("make of b", x.make(1, 0, 0, 0, 0), 0);
        C.due("make of c", x.make(2, 0, 0, 0, 0), 0);
        C.marks("names of this type, else of those above", x, 24, 2, 10, 33, 2, 10, 183);
        C.due("x of a", x.field(0, 1), 2);
        C.due("x of b", x.field(1, 0), 20);
    }

    private static void branches() {
        MakerStarts x = C.right("type a{maker(p,q){if(p<q){mark 1;}else{mark 2;}if(q<p){mark 3;}}}");
        C.due("less", x.make(0, 2, -1, 0, 0), 0);
        C.due("as much", x.make(0, 2, 5, 5, 0), 0);
        C.due("more", x.make(0, 2, Integer.MAX_VALUE, Integer.MIN_VALUE, 0), 0);
        C.marks("branches", x, 1, 2, 2, 3);
    }

    private static void body(int answer, String body, int... marks) {
        MakerStarts x = C.right("type a{maker(p)fails 1,2,3{" + body + "}}");
        C.due("make of " + body, x.make(0, 1, 0, 0, 0), answer);
        C.marks(body, x, marks);
    }

    private static void tries() {
        for (int k = 1; k <= 6; k++) {
            body(k, "throw " + k + ";");
        }
        body(0, "try{throw 4;mark 1;}catch 4{mark 2;}mark 3;", 2, 3);
        body(4, "try{throw 4;}catch 5{mark 2;}mark 3;");
        body(0, "try{mark 1/p;}catch 7{mark 2;}", 2);
        body(0, "try{mark 1;}catch 7{mark 2;}finally{mark 3;}mark 4;", 1, 3, 4);
        body(0, "try{throw 4;}catch 4{mark 2;}finally{mark 3;}mark 4;", 2, 3, 4);
        body(4, "try{throw 4;}finally{mark 3;}mark 4;", 3);
        body(5, "try{throw 4;}catch 4{mark 1;throw 5;}finally{mark 3;}mark 4;", 1, 3);
        body(4, "try{throw 4;}catch 4{throw 4;}");
        body(6, "try{throw 4;}finally{throw 6;}");
        body(6, "try{throw 4;}catch 4{throw 5;}finally{throw 6;}");
        body(0, "try{try{throw 4;}finally{mark 1;}}catch 4{mark 2;}", 1, 2);
        body(0, "try{try{throw 4;}finally{throw 5;}}catch 5{mark 2;}", 2);
        body(5, "try{throw 5;}finally{try{throw 4;}catch 4{mark 1;}mark 2;}mark 3;", 1, 2);
        body(5, "try{try{throw 5;}finally{try{mark 1;}finally{mark 2;}}}finally{mark 3;}", 1, 2, 3);
        body(0, "try{}finally{}mark 1;", 1);
        body(0, "try{mark 1;}catch 7{mark 2;}mark 3;", 1, 3);
        body(0, Checks.repeat("try{}finally{}", 12) + Checks.repeat("try{throw 4;}catch 4{}", 12) + "try{throw 5;}catch 5{mark 1;}", 1);
        body(0, "try{" + Checks.repeat("try{throw 4;}catch 4{}finally{}", 9) + "throw 5;}catch 5{mark 1;}", 1);
        body(0, "p=1;try{p=2+1/0;}catch 7{mark p;}", 1);

        MakerStarts x = C.right("type a{maker()fails 1,2{try{new b();}catch 4{mark 4;}try{new c();}catch 1{mark 1;}new c();}}"
                + "type b{act f(){throw 4;}block{mark f();}}type c{maker()fails 1,2{try{throw 1;}finally{mark 9;}}}");
        C.due("make", x.make(0, 0, 0, 0, 0), 1);
        C.marks("out of acts and makers", x, 4, 9, 1, 9);
    }

    private static void returns() {
        MakerStarts x = C.right("type a{"
                + "act f(){try{return 1;}finally{mark 2;}}"
                + "act g(){try{throw 4;}finally{return 3;}}"
                + "act h(){try{return 5;}finally{return 6;}}"
                + "act i(){try{return 1/0;}catch 7{return 8;}finally{mark 7;}}"
                + "act j(){try{try{return 9;}finally{mark 10;}}finally{mark 11;}}"
                + "act k(){try{return 12;}finally{throw 5;}}"
                + "maker(){mark f();mark g();mark h();mark i();mark j();try{mark k();}catch 5{mark 13;}}}");
        C.due("make", x.make(0, 0, 0, 0, 0), 0);
        C.marks("returns", x, 2, 1, 3, 6, 7, 8, 10, 11, 9, 13);

        MakerStarts y = C.right("type a{field n;act f(){n=n+1;if(n<5){return n*10+f();}return 0;mark 99;}maker(){mark f();mark 1+f()*2;}}");
        C.due("make", y.make(0, 0, 0, 0, 0), 0);
        C.marks("acts within acts", y, 100, 1);
    }

    private static void startOfNew() {
        MakerStarts x = C.right("type a{maker(){new b(b.s,c.s);}}"
                + "type b{static field s=1;static block{mark 1;}maker(p,q){mark p+q;}}"
                + "type c{static field s=2;static block{mark 2;}}");
        C.due("make", x.make(0, 0, 0, 0, 0), 0);
        C.marks("started behind the EXPS", x, 1, 2, 3);

        MakerStarts y = C.right("type a{maker(){new b(f());}act f(){mark 1;return 5;}}type b{static block{mark 2;}maker(p){mark p;}}");
        C.due("make", y.make(0, 0, 0, 0, 0), 0);
        C.marks("started behind the EXPS", y, 1, 2, 5);

        MakerStarts z = C.right("type a{static field s=1/0;field x;}");
        C.due("the start fails", z.make(0, 0, 0, 0, 0), 8);
        C.due("it is absent", z.make(0, 0, 0, 0, 0), 9);
        C.due("no thing came", z.told(3), 0);
        C.dueThrow("no thing", () -> z.field(0, 1), Checks.STATE);
    }

    private static void steps() {
        MakerStarts x = C.right("type a{maker(){}maker(p){p=1;mark 2;}maker(p,q){new a();}maker(p,q,r){mark f();}act f(){}}type b:a{}");
        C.due("new alone", x.make(0, 0, 0, 0, 0), 0);
        C.due("new alone", x.told(4), 1);
        C.due("super is no step", x.make(1, 0, 0, 0, 0), 0);
        C.due("super is no step", x.told(4), 1);
        C.due("two S", x.make(0, 1, 0, 0, 0), 0);
        C.due("two S", x.told(4), 3);
        C.due("new as S", x.make(0, 2, 0, 0, 0), 0);
        C.due("new as S is two", x.told(4), 3);
        C.due("an act", x.make(0, 3, 0, 0, 0), 0);
        C.due("an act", x.told(4), 3);
    }

    private static void spent() {
        // one for the new, then 7 acts each of 1 + 16 steps: 120 at the last mark of the seventh
        String text = "type a{act f(){" + Checks.repeat("mark 1;", 16) + "}maker(p){if(0<p){p=f()+f();}p=f()+f()+f()+f()+f();try{throw 4;}catch 4{}finally{mark 2;}}}";
        MakerStarts x = C.right(text);
        C.due("five acts are well", x.make(0, 1, 0, 0, 0), 0);
        C.due("steps", x.told(4), 1 + 1 + 1 + 5 * 17 + 3);
        C.due("two more are not", x.make(0, 1, 1, 0, 0), 12);
        C.due("120 steps", x.told(4), 120);
        C.due("a thing came", x.told(3), 2);
        C.due("the type is started", x.type(0, 3), 1);

        String just = "type a{act f(){" + Checks.repeat("mark 1;", 16) + "}maker(p){p=f()+f()+f()+f()+f()+f();if(0<p){}"
                + Checks.repeat("p=1;", 15) + "}maker(){new a(0);}}";
        MakerStarts y = C.right(just);
        C.due("just enough", y.make(0, 1, 0, 0, 0), 0);
        C.due("all of 120 steps", y.told(4), 1 + 1 + 6 * 17 + 1 + 15);
        C.due("two more", y.make(0, 0, 0, 0, 0), 12);
        C.due("120 steps", y.told(4), 120);
        C.due("it begins anew then", y.make(0, 1, 0, 0, 0), 0);

        MakerStarts z = C.right("type a{field n;field e;act f(){n=n+1;if(n<e){return f();}" + Checks.repeat("e=1;", 60)
                + "}maker(p){e=p;n=f();}}");
        C.due("spent with 22 acts under way", z.make(0, 1, 22, 0, 0), 12);
        C.due("as it was left", z.field(0, 0), 22);
        C.due("none is under way any more", z.make(0, 1, 14, 0, 0), 0);
        C.due("23 acts are well, but for their steps", z.make(0, 1, 23, 0, 0), 12);
        C.due("24 are not", z.make(0, 1, 24, 0, 0), 11);
    }

    private static void deep() {
        MakerStarts x = C.right("type a{maker(p){mark p;try{new a(p+1);}catch 9{}}}");
        C.due("11 can't be taken", x.make(0, 1, 1, 0, 0), 11);
        C.due("24 makers", x.told(1), 24);
        C.due("the last of them", x.marked(23), 24);
        C.due("each mark, try, new and its new", x.told(4), 24 * 4 + 1);

        MakerStarts y = C.right("type a{field n;field m;act f(){n=n+1;return f();}maker(){m=f();}}");
        C.due("acts", y.make(0, 0, 0, 0, 0), 11);
        C.due("23 acts and a maker", y.field(0, 0), 23);
        C.due("an act that is too deep is no step", y.told(4), 1 + 1 + 23 * 3);
        C.due("m", y.field(0, 1), 0);

        MakerStarts z = C.right("type a{maker(p){if(p<22){new a(p+1);}else{new b();}}}"
                + "type b{static block{mark 5;}maker(){mark 6;new c();}}type c{static field s=7;static block{mark s;}}");
        C.due("24 are under way", z.make(0, 1, 0, 0, 0), 11);
        C.marks("c is started, then it is too deep", z, 5, 6, 7);
        C.due("c is started", z.type(2, 3), 1);

        MakerStarts w = C.right("type a{maker(p){if(p<24){try{new a(p+1);}finally{mark p;}}}}");
        C.due("finally is done", w.make(0, 1, 3, 0, 0), 0);
        C.due("as often as it was begun", w.told(1), 21);
    }

    private static void deepOfOthers() {
        MakerStarts x = C.right("type a{block{mark 1;}}type b:a{block{mark 2;}}type c:b{maker(p){if(p<30){new c(p+1);}else{mark 3;}}}");
        C.due("well with 22 makers", x.make(2, 1, 9, 0, 0), 0);
        C.due("those of super are left ahead of the body: 22 things", x.told(1), 22 * 2 + 1);
        C.due("two are free above the 22nd body, as super needs", x.make(2, 1, 8, 0, 0), 11);

        MakerStarts y = C.right("type a{maker(p){mark p;}maker(p,q)this(f.k/q);{if(p<30){new a(p+1,1);}}}type f{const k=4;}");
        C.due("this counts too", y.make(0, 2, 0, 1, 0), 11);
        C.due("the 24th has no room for its this", y.told(1), 23);
        C.due("its EXPS come first", y.make(0, 2, 0, 0, 0), 7);

        MakerStarts z = C.right("type a{static field s=1;static block{mark 9;}maker(p){}}"
                + "type b:a{maker(p)super(a.s);{mark p;if(p<30){new b(p+1);}}}");
        C.due("super counts too", z.make(1, 1, 1, 0, 0), 11);
        C.due("the 24th has no room for its super", z.told(1), 1 + 23);
    }

    private static void refusals() {
        MakerStarts x = C.right("type a{field x;maker(p){x=p;}}type b{}");
        C.due("make", x.make(0, 1, 5, 0, 0), 0);
        C.due("no such type", x.make(2, 0, 0, 0, 0), MakerStarts.NONE);
        C.due("no such type", x.make(-1, 9, 0, 0, 0), MakerStarts.NONE);
        C.due("no such type", x.make(Integer.MAX_VALUE, 0, 0, 0, 0), MakerStarts.NONE);
        C.due("n = 4", x.make(0, 4, 0, 0, 0), MakerStarts.BAD);
        C.due("n = -1", x.make(0, -1, 0, 0, 0), MakerStarts.BAD);
        C.due("no such maker", x.make(0, 0, 0, 0, 0), MakerStarts.NONE);
        C.due("no such maker", x.make(1, 1, 0, 0, 0), MakerStarts.NONE);
        C.due("the thing stays", x.field(0, 0), 5);
        C.due("steps stay", x.told(4), 2);
        C.due("how often a thing came", x.told(3), 1);
        C.due("b was not started", x.type(1, 3), 0);
        C.due("one without parameters", x.make(1, 0, 0, 0, 0), 0);
    }
}
