/** Promises 3 and 4: what NAMES mean, and the FAULTS 4 to 8 and 10. */
public final class NamesTest {
    private static final Checks C = new Checks();

    public static void main(String[] args) {
        toldAlready();
        meansNothing();
        otherMakers();
        stillPlaces();
        constants();
        tooEarly();
        constantsAhead();
        rings();
        firstByPlace();
        C.end();
    }

    private static void toldAlready() {
        C.fault(4, "type a{}type b{}type ^a{}");
        C.fault(4, "type a{field x;static field ^x;}");
        C.fault(4, "type a{const x=1;field ^x;}");
        C.fault(4, "type a{static field x;const ^x=1;}");
        C.fault(4, "type a{act f(){}act ^f(){}}");
        C.fault(4, "type a{maker(p,q,^p){}}");
        C.fault(4, "type a{maker(p){}maker(){}^maker(q){}}");
        C.right("type a{field a;act a(){return a;}maker(a){}}");
        C.right("type a{field x;act f(){}}type b:a{field x;act f(){}}");
    }

    private static void meansNothing() {
        C.fault(5, "type a:^b{}type b{}");
        C.fault(5, "type a:^a{}");
        C.fault(5, "type a{field x=^y;}");
        C.fault(5, "type a{block{^y=1;}}");
        C.fault(5, "type a{block{mark ^f();}}");
        C.fault(5, "type a{field f;block{mark ^f();}}");
        C.fault(5, "type a{act f(){}block{mark ^f;}}");
        C.fault(5, "type a{field x=^b.x;}");
        C.fault(5, "type a{static field s;field x=a.^y;}");
        C.fault(5, "type a{field x;block{a.^x=1;}}");
        C.fault(5, "type a{block{new ^b();}}");
        C.fault(5, "type a{block{new ^a(1);}}");
        C.fault(5, "type a{block{new ^a(1,2,3,4,5);}}");
        C.fault(5, "type a{maker(p){new ^a();}}");
        C.fault(5, "type a{maker(p){}act f(){return ^p;}}");
        C.fault(5, "type a{field x;}type b{block{mark ^x;}}");
        C.fault(5, "type a{block{mark b.^s;}}type b:c{}type c{static field s;}");
        C.right("type a{block{new b(1);mark b.s;b.s=2;}}type b{static field s;maker(p){}}");
        C.right("type a{static field s;const k=1;field x;}type b:a{field s;block{mark b.s+b.k+s+x;}}");
    }

    private static void otherMakers() {
        C.fault(5, "type a{maker(p)^this();{}}");
        C.fault(5, "type a{maker()^this(1,2,3,4);{}}");
        C.fault(5, "type a{maker()^super(1);{}}");
        C.fault(5, "type a{maker(p){}}type b:a{maker()^super();{}}");
        C.fault(5, "type a{maker(p){}}type b:a{^maker(){}}");
        C.fault(5, "type a{maker(p){}}type ^b:a{}");
        C.fault(5, "type a{}type b:a{maker()^super(1);{}}");
        C.right("type a{}type b:a{maker(){}maker(p)super();{}}type c:b{}");
        C.right("type a{maker(p){}}type b:a{maker()super(1);{}maker(p)this();{}}");
        C.right("type a{maker()super();{}}");
    }

    private static void stillPlaces() {
        C.fault(6, "type a{field x;static field s=^x;}");
        C.fault(6, "type a{field x;static block{mark ^x;}}");
        C.fault(6, "type a{field x;static block{^x=1;}}");
        C.fault(6, "type a{act f(){}static field s=^f();}");
        C.fault(6, "type a{act f(){}static block{mark 1+^f();}}");
        C.fault(6, "type a{field x;maker(p){}maker()this(^x);{}}");
        C.fault(6, "type a{act f(){}maker(p){}maker()this(^f());{}}");
        C.fault(6, "type a{field x;maker(p){}}type b:a{maker()super(^x);{}}");
        C.fault(6, "type a{field x;}type b:a{static field s=^x;}");
        C.fault(6, "type a{field x;const k=^x;}");
        C.fault(6, "type a{act f(){}const k=^f();}");
        C.fault(5, "type a{static field s=^f();}");
        C.right("type a{static field s;const k=1;maker(p){}maker(p,q)this(p+s+k+a.s);{}}");
        C.right("type a{field p;maker(p){}maker(p,q)this(p);{}}");
    }

    private static void constants() {
        C.right("type a{const k=1;const l=k+a.k;}type b:a{const m=l+k+a.l;}type c{const n=b.m+b.k;}");
        C.fault(7, "type a{const k=^k;}");
        C.fault(7, "type a{const k=^l;const l=1;}");
        C.fault(7, "type a{static field s;const k=^s;}");
        C.fault(7, "type a{static field s;const k=1+^a.s;}");
        C.fault(7, "type a{const k=^b.l;}type b{const l=1;}");
        C.fault(7, "type a{const k=1;}type b:a{const k=^k;}");
        C.fault(5, "type a{const k=^b.l;}");
        C.fault(5, "type a{const k=^l;}");
    }

    private static void tooEarly() {
        C.fault(7, "type a{field x=^x;}");
        C.fault(7, "type a{field x=^y;field y;}");
        C.fault(7, "type a{static field s=^s;}");
        C.fault(7, "type a{static field s=1+^u;static field u;}");
        C.fault(7, "type a{block{mark ^x;}field x;}");
        C.fault(7, "type a{block{x=^x+1;}field x;}");
        C.fault(7, "type a{static block{if(0<1){mark ^s;}}static field s;}");
        C.right("type a{block{x=1;}field x;static block{s=1;}static field s;}");
        C.right("type a{static field s=a.s;static block{mark a.u;}static field u;}");
        C.right("type a{field x=s;block{mark s;}static field s;}");
        C.right("type a{act f(){return x;}maker(){mark x;}field x;}");
        C.right("type a{field x;}type b:a{field y=x;}");
        C.right("type a{field y=k;const k=1;}");
        C.right("type a{field x;field y=x;block{mark x+y;}}");
        C.fault(7, "type a{field x;}type b:a{field y=^x;field x;}");
    }

    private static void constantsAhead() {
        C.fault(8, "type a{const k=1;block{^k=2;}}");
        C.fault(8, "type a{const k=1;block{a.^k=2;}}");
        C.fault(8, "type a{const k=1;}type b:a{act f(){^k=2;}}");
        C.fault(8, "type a{const k=1;}type b:a{act f(){b.^k=2;}}");
        C.right("type a{const k=1;maker(k){k=2;}}");
    }

    private static void rings() {
        C.fault(10, "type a{maker()^this();{}}");
        C.fault(10, "type a{maker()^this(1);{}maker(p)this();{}}");
        C.fault(10, "type a{maker(p,q)this(1);{}maker(p)^this();{}maker()this(1);{}}");
        C.fault(10, "type a{maker()^this(1);{}maker(p)this(1,2);{}maker(p,q)this();{}maker(p,q,r)this();{}}");
        C.right("type a{maker()this(1);{}maker(p)this(1,2);{}maker(p,q)this(1,2,3);{}maker(p,q,r){}}");
    }

    private static void firstByPlace() {
        C.fault(5, "type a{block{mark ^y;}field x;field x;}");
        C.fault(4, "type a{maker(){}}type b:a{maker(){}}type ^b{}");
        C.fault(4, "type a{maker(p){}}type b:a{maker()super(1);{}^maker(){}}");
        C.fault(11, "type a{^maker(){throw 1;}field x=y;}");
        C.fault(5, "type a{field x=^y;maker(){throw 1;}}");
        C.fault(9, "type a{act f(){throw ^9;}field x=y;}");
        C.fault(11, "type a{^act f(){throw 1;}field x=y;}");
    }
}
