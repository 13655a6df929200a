/** Promises 5 (told), 6 (type), 9 (marked), 10 (field) and 11 (held). */
public final class AskTest {
    private static final Checks C = new Checks();

    public static void main(String[] args) {
        told();
        thingsCame();
        type();
        marked();
        field();
        fieldOfFailed();
        held();
        C.end();
    }

    private static void told() {
        MakerStarts x = C.right("type a{maker(){mark 1;mark 2;}}type b{static block{mark 3;}}type c{}");
        C.due("types", x.told(0), 3);
        C.due("steps before", x.told(4), 0);
        x.make(0, 0, 0, 0, 0);
        C.due("marked", x.told(1), 2);
        C.due("steps of make", x.told(4), 3);
        x.start(1);
        C.due("marks go on", x.told(1), 3);
        C.due("steps of start", x.told(4), 1);
        x.feed(32, 1);
        C.due("bytes", x.told(2), 1);
        C.due("things", x.told(3), 1);
        C.due("what = 5", x.told(5), MakerStarts.BAD);
        C.due("what = -1", x.told(-1), MakerStarts.BAD);
        C.due("what as low as can be", x.told(Integer.MIN_VALUE), MakerStarts.BAD);
        C.due("what as high as can be", x.told(Integer.MAX_VALUE), MakerStarts.BAD);
    }

    private static void thingsCame() {
        MakerStarts x = C.right("type a{maker(){}maker(p){throw 4;}maker(p,q){new a();new a();}}type b{static field s=1/0;}"
                + "type c{static block{new a();}}");
        x.make(0, 0, 0, 0, 0);
        C.due("one", x.told(3), 1);
        C.due("its maker threw", x.make(0, 1, 0, 0, 0), 4);
        C.due("it came all the same", x.told(3), 2);
        C.due("its maker makes others", x.make(0, 2, 0, 0, 0), 0);
        C.due("the thing of make() alone", x.told(3), 3);
        C.due("its start fails", x.make(1, 0, 0, 0, 0), 8);
        C.due("none came", x.told(3), 3);
        C.due("start makes one", x.start(2), 0);
        C.due("that is none of make()", x.told(3), 3);
    }

    private static void type() {
        MakerStarts x = C.right("type a{field x;field y;static field s;const k=1;maker(){}maker(p){}block{}act f(){}}"
                + "type b:a{static field s=1/0;}type c:a{field z;}");
        int[][] due = {{-1, 8, 2, 0, 2}, {0, 1, 0, 0, 0}, {0, 1, 0, 0, 1}};
        for (int t = 0; t < 3; t++) {
            for (int what = 0; what < 5; what++) {
                C.due("type(" + t + ", " + what + ")", x.type(t, what), due[t][what]);
            }
            C.due("what = 5", x.type(t, 5), MakerStarts.BAD);
            C.due("what = -1", x.type(t, -1), MakerStarts.BAD);
        }
        x.start(1);
        C.due("a is started", x.type(0, 3), 1);
        C.due("b is absent", x.type(1, 3), 2);
        C.due("c is not started", x.type(2, 3), 0);
        C.due("no such type", x.type(3, 0), MakerStarts.NONE);
        C.due("no such type, ahead of BAD", x.type(-1, 9), MakerStarts.NONE);
        C.due("no such type", x.type(Integer.MIN_VALUE, Integer.MIN_VALUE), MakerStarts.NONE);
    }

    private static void marked() {
        MakerStarts x = C.right("type a{maker(p){" + Checks.repeat("mark p;p=p+1;", 35) + "}}");
        C.dueThrow("none yet", () -> x.marked(0), Checks.INDEX);
        for (int i = 0; i < 7; i++) {
            C.due("make", x.make(0, 1, 35 * i, 0, 0), 0);
            C.due("marks, 200 at most", x.told(1), Math.min(200, 35 * (i + 1)));
        }
        for (int i = 0; i < 200; i++) {
            C.due("the first 200 are kept: " + i, x.marked(i), i);
        }
        C.dueThrow("200", () -> x.marked(200), Checks.INDEX);
        C.dueThrow("-1", () -> x.marked(-1), Checks.INDEX);
        C.dueThrow("as low as can be", () -> x.marked(Integer.MIN_VALUE), Checks.INDEX);
        C.dueThrow("as high as can be", () -> x.marked(Integer.MAX_VALUE), Checks.INDEX);
    }

    private static void field() {
        MakerStarts x = C.right("type a{static field s;field x=1;const k=2;field y;}type b:a{block{y=5;}field z=x+2;}type c:a{}"
                + "type d{static block{new b();}field w=9;}");
        C.dueThrow("no thing yet", () -> x.field(0, 1), Checks.STATE);
        C.dueThrow("no thing yet, whatever the type", () -> x.field(9, 9), Checks.STATE);
        C.due("make", x.make(1, 0, 0, 0, 0), 0);
        C.due("x of a", x.field(0, 1), 1);
        C.due("y of a", x.field(0, 3), 5);
        C.due("z of b", x.field(1, 1), 3);
        C.dueThrow("a static", () -> x.field(0, 0), Checks.INDEX);
        C.dueThrow("a constant", () -> x.field(0, 2), Checks.INDEX);
        C.dueThrow("a block", () -> x.field(1, 0), Checks.INDEX);
        C.dueThrow("none", () -> x.field(0, 4), Checks.INDEX);
        C.dueThrow("none", () -> x.field(0, -1), Checks.INDEX);
        C.dueThrow("none", () -> x.field(0, Integer.MAX_VALUE), Checks.INDEX);
        C.dueThrow("no such type", () -> x.field(4, 0), Checks.INDEX);
        C.dueThrow("no such type", () -> x.field(-1, 0), Checks.INDEX);
        C.dueThrow("not below c", () -> x.field(2, 0), Checks.STATE);
        C.dueThrow("not below d, whatever the field", () -> x.field(3, 99), Checks.STATE);
        C.due("start makes another thing", x.start(3), 0);
        C.due("the latest make() counts", x.field(0, 3), 5);
        C.due("make of a", x.make(0, 0, 0, 0, 0), 0);
        C.due("all fields were 0", x.field(0, 3), 0);
        C.dueThrow("not below b", () -> x.field(1, 1), Checks.STATE);
        C.due("make of d", x.make(3, 0, 0, 0, 0), 0);
        C.due("w", x.field(3, 1), 9);
    }

    private static void fieldOfFailed() {
        MakerStarts x = C.right("type a{field x;maker(p){x=p;if(0<p){throw 4;}x=8;new b(0);}maker(){x=3;new b(1);}}"
                + "type b:a{field y=6;maker(p)super(1);{if(0<p){throw 5;}}}type c{static field s=1/0;}");
        C.due("thrown", x.make(0, 1, 7, 0, 0), 4);
        C.due("as that left it", x.field(0, 0), 7);
        C.due("thrown by another", x.make(0, 0, 0, 0, 0), 4);
        C.due("the thing of make() itself", x.field(0, 0), 3);
        C.due("its parent's maker throws", x.make(1, 1, 0, 0, 0), 4);
        C.due("y was not reached", x.field(1, 0), 0);
        C.due("x was", x.field(0, 0), 1);
        C.due("no start, no thing", x.make(2, 0, 0, 0, 0), 8);
        C.dueThrow("the latest make() had none", () -> x.field(0, 0), Checks.STATE);
    }

    private static void held() {
        MakerStarts x = C.right("type a{const k=7*6;static field s=k;field x;static field u;block{}const z=3+5/0;const y=1+7%(k-42)*9+4;maker(){u=u+1;}}"
                + "type b:a{const m=k-1;}type c{const w=999999999*999999999;const n=b.m*2+a.z-(-w);}");
        C.due("k", x.held(0, 0), 42);
        C.due("s is 0 yet", x.held(0, 1), 0);
        C.due("/ by 0 in a constant", x.held(0, 5), 3);
        C.due("% by 0 in a constant", x.held(0, 6), 5);
        C.due("m", x.held(1, 0), 41);
        C.due("w wraps", x.held(2, 0), 999999999 * 999999999);
        C.due("n", x.held(2, 1), 85 + 999999999 * 999999999);
        C.due("asking starts none", x.type(0, 3), 0);
        x.make(0, 0, 0, 0, 0);
        x.make(0, 0, 0, 0, 0);
        C.due("s", x.held(0, 1), 42);
        C.due("u", x.held(0, 3), 2);
        C.dueThrow("a field", () -> x.held(0, 2), Checks.INDEX);
        C.dueThrow("a block", () -> x.held(0, 4), Checks.INDEX);
        C.dueThrow("a maker", () -> x.held(0, 7), Checks.INDEX);
        C.dueThrow("none", () -> x.held(0, 8), Checks.INDEX);
        C.dueThrow("none", () -> x.held(0, -1), Checks.INDEX);
        C.dueThrow("one of another type", () -> x.held(1, 1), Checks.INDEX);
        C.dueThrow("no such type", () -> x.held(3, 0), Checks.INDEX);
        C.dueThrow("no such type", () -> x.held(-1, 0), Checks.INDEX);
        C.dueThrow("as low as can be", () -> x.held(Integer.MIN_VALUE, Integer.MIN_VALUE), Checks.INDEX);
    }
}
