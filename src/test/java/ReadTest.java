/** Promises 3 (read) and 4 (place): tokens, the grammar and its limits, and what a text changes. */
public final class ReadTest {
    private static final Checks C = new Checks();

    public static void main(String[] args) {
        tokens();
        grammar();
        endsTooEarly();
        tooMany();
        tooDeep();
        whatComesFirst();
        manyTexts();
        wrongTextChangesNothing();
        rightTextChangesAll();
        C.end();
    }

    private static void tokens() {
        C.right(" \n type\na\n{ } ");
        C.right("type a{field abcdefgh=123456789;}");
        C.right("type a1b2{}");
        C.right("type typea{field thisx;field xnew;}");
        C.right("type a{field x=000000007;}");
        C.fault(1, "type a{field ^abcdefghi;}");
        C.fault(1, "type a{field x=^1234567890;}");
        C.fault(1, "type a{field x=^0000000001;}");
        C.fault(1, "type ^A{}");
        C.fault(1, "type a{field x^_y;}");
        C.fault(1, "type a{^\t}");
        C.fault(1, "type a{}^\r");
        C.fault(1, "^>");
        C.fault(2, "type a{field x=1^x;}");
        C.fault(2, "type ^1a{}");
        C.right("type a{field x=1;block{if(0<1){throw 4;}x=2;}}");
    }

    private static void grammar() {
        C.right("type a{}type b:a{}");
        C.right("type a{const k=1;field x;field y=1;static field s;static field t=2;block{}static block{}"
                + "maker(p,q,r)fails 4,5{}}");
        C.right("type a{maker(p)fails 1,2,3,1 this();{}maker()super();{}}");
        C.right("type a{act f(){return 1+2*3-4/5%6;}}");
        C.right("type a{act f(){try{}catch 9{}try{}finally{}try{}catch 4{}finally{}return-(1);}}");
        C.right("type a{act f(){if(1<2){}if(1<2){}else{}new a();throw 4;}}");
        C.right("type a{static field s;block{a.s=1;s=2;mark 3;}}");

        C.fault(2, "^a");
        C.fault(2, "type a^}");
        C.fault(2, "type ^field{}");
        C.fault(2, "type ^return{}");
        C.fault(2, "type a:^{}");
        C.fault(2, "type a{}^}");
        C.fault(2, "type a{^x=1;}");
        C.fault(2, "type a{static ^const k=1;}");
        C.fault(2, "type a{static ^maker(){}}");
        C.fault(2, "type a{static ^static field x;}");
        C.fault(2, "type a{const k^;}");
        C.fault(2, "type a{field x=^;}");
        C.fault(2, "type a{field x=1^<2;}");
        C.fault(2, "type a{field x=1+^*2;}");
        C.fault(2, "type a{field x=f(^1);}");
        C.fault(2, "type a{field x=a.^1;}");
        C.fault(2, "type a{field x=(1^;}");
        C.fault(2, "type a{block^;}");
        C.fault(2, "type a{maker(p,^){}}");
        C.fault(2, "type a{maker(p ^q){}}");
        C.fault(2, "type a{maker()fails ^{}}");
        C.fault(2, "type a{maker()fails 1,^{}}");
        C.fault(2, "type a{maker()this()^{}}");
        C.fault(2, "type a{maker()super(1,^);{}}");
        C.fault(2, "type a{maker(){^super();}}");
        C.fault(2, "type a{maker()this();^super();{}}");
        C.fault(2, "type a{act f(^p){}}");
        C.fault(2, "type a{block{throw ^x;}}");
        C.fault(2, "type a{block{x^;}}");
        C.fault(2, "type a{block{x.y^.z=1;}}");
        C.fault(2, "type a{block{f^();}}");
        C.fault(2, "type a{block{if(1^){}}}");
        C.fault(2, "type a{block{if(1<2)^mark 1;}}");
        C.fault(2, "type a{block{^else{}}}");
        C.fault(2, "type a{block{new a^;}}");
        C.fault(2, "type a{block{try{}^mark 1;}}");
        C.fault(2, "type a{block{try{}^}}");
        C.fault(2, "type a{block{try{}finally{}^catch 4{}}}");
        C.fault(2, "type a{block{try{}catch 4{}^catch 5{}}}");
        C.fault(2, "type a{block{^return 1;}}");
        C.fault(2, "type a{maker(){^return 1;}}");
        C.fault(2, "type a{act f(){return 1;}block{if(0<1){^return 1;}}}");
        C.fault(2, "type a{act f(){^{}}}");
    }

    private static void endsTooEarly() {
        C.fault(2, "type^");
        C.fault(2, "type ^");
        C.fault(2, "type a{ \n ^");
        C.fault(2, "type a{field x=1^");
        C.fault(2, "type a{block{try{}^");
    }

    private static void tooMany() {
        StringBuilder types = new StringBuilder();
        for (char t = 'a'; t <= 'h'; t++) {
            types.append("type ").append(t).append("{}");
        }
        C.right(types.toString());
        C.fault(3, types + "^type i{}");
        C.fault(3, types + "^type");
        C.fault(2, types + "^x");

        String members = "field a;field b;field c;field d;field e;field f;field g;";
        C.right("type t{" + members + "field h;}");
        C.fault(3, "type t{" + members + "field h;^field i;}");
        C.fault(3, "type t{" + members + "static block{}^static field i;}");
        C.fault(3, "type t{" + members + "maker(){}^maker");
        C.fault(2, "type t{" + members + "field h;^h}");

        C.right("type t{maker(a,b,c){}}");
        C.fault(3, "type t{maker(a,b,c,^d){}}");
        C.fault(2, "type t{maker(a,b,c,^){}}");

        String forty = Checks.repeat("mark 1;", 40);
        C.right("type t{block{" + forty + "}block{" + forty + "}}");
        C.fault(3, "type t{block{" + forty + "}block{" + forty + "^mark 1;}}");
        C.fault(3, "type t{block{" + forty + "}block{if(0<1){" + Checks.repeat("mark 1;", 39) + "^x");
        C.fault(3, "type t{block{" + forty + forty + "^mark 1;}}");
        C.fault(2, "type t{block{" + forty + "}block{" + forty + "^return 1;}}");
    }

    private static void tooDeep() {
        C.right("type a{const k=" + Checks.repeat("(", 8) + "1" + Checks.repeat(")", 8) + ";}");
        C.fault(3, "type a{const k=" + Checks.repeat("(", 8) + "^(1" + Checks.repeat(")", 9) + ";}");
        C.right("type a{const k=--------1;}");
        C.fault(3, "type a{const k=--------^-1;}");
        C.fault(3, "type a{const k=-(-(-(-(^-1))));}");
        C.right("type a{const k=-(-(-(-(1))))-(-(-(-(-1))));}");
        C.right("type a{const k=1" + Checks.repeat("-1", 100) + ";}");

        String seven = Checks.repeat("if(0<1){", 7);
        C.right("type a{block{" + seven + Checks.repeat("}", 7) + "}}");
        C.fault(3, "type a{block{" + seven + "if(0<1)^{" + Checks.repeat("}", 8) + "}}");
        C.fault(3, "type a{block{" + seven + "try^{}finally{}" + Checks.repeat("}", 7) + "}}");
        // BODIES and FACTORS stand within one another: they share one count
        C.right("type a{block{" + seven + "mark 1;" + Checks.repeat("}", 7) + "}}");
        C.fault(3, "type a{block{" + seven + "mark ^-1;" + Checks.repeat("}", 7) + "}}");
        C.right("type a{act f(){return 1;}block{" + seven + "mark f();" + Checks.repeat("}", 7) + "}}");
    }

    private static void whatComesFirst() {
        C.fault(1, "type a{block{try{}^@}}");
        C.fault(2, "type a{^x @}");
        C.fault(1, "type a{field x=y;field x;block{throw 9;}^@");
        C.fault(2, "type a:b{field x=y;^;}");
    }

    private static void manyTexts() {
        MakerStarts x = new MakerStarts();
        String one = "type a{static field s=2;field x=a.s;maker(p){" + Checks.repeat("x=x*p;", 70) + "mark x;}}";
        String other = "type b{const k=3;maker(q,p){" + Checks.repeat("p=q;", 70) + "mark p+k;mark q;}}";
        for (int i = 0; i < 5; i++) {
            C.reads(x, i % 2 == 0 ? one : other);
            C.due("make of text " + i, x.make(0, 1 + i % 2, 1, 5, 0), 0);
            if (i % 2 == 0) {
                C.marks("text " + i, x, 2);
            } else {
                C.marks("text " + i, x, 4, 1);
            }
            Checks.feed(x, "type a{block{if(0<1){mark (((1");
            C.due("a text that ends in the deep", x.read(), -22);
        }
    }

    private static void wrongTextChangesNothing() {
        MakerStarts x = C.right("type a{static field s=4;field x;maker(p){x=p;mark p;}}");
        C.due("make", x.make(0, 1, 7, 0, 0), 0);
        Checks.feed(x, "type a{} type b{} type b{}");
        C.due("a name told already", x.read(), -24);
        C.due("its place", x.place(), 23);
        C.due("types stay", x.told(0), 1);
        C.due("members stay", x.type(0, 1), 3);
        C.due("it stays started", x.type(0, 3), 1);
        C.marks("marks stay", x, 7);
        C.due("the thing stays", x.field(0, 1), 7);
        C.due("the static stays", x.held(0, 0), 4);
        C.due("it can still be made", x.make(0, 1, 8, 0, 0), 0);
        C.due("the new thing", x.field(0, 1), 8);
        C.due("place stays", x.place(), 23);
    }

    private static void rightTextChangesAll() {
        MakerStarts x = C.right("type a{static field s=4;field x;maker(p){x=p;mark p;}}type b{}");
        C.due("make", x.make(0, 1, 7, 0, 0), 0);
        C.reads(x, "type a{static field s;field x;maker(p){}}");
        C.due("types", x.told(0), 1);
        C.due("none is started", x.type(0, 3), 0);
        C.due("statics are 0 from the text on", x.held(0, 0), 0);
        C.marks("nothing is marked", x);
        C.dueThrow("there is no thing", () -> x.field(0, 1), Checks.STATE);
        C.due("how often a thing came", x.told(3), 1);
        C.due("steps of the latest make", x.told(4), 3);
        C.reads(x, "");
        C.due("no types", x.told(0), 0);
    }
}
