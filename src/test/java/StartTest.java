/** Promise 8 (start): how TYPES are STARTED, when, and what becomes of those that fail. */
public final class StartTest {
    private static final Checks C = new Checks();

    public static void main(String[] args) {
        asTheyStand();
        parentFirst();
        once();
        askedFor();
        underWay();
        ownFailure();
        parentFailure();
        spent();
        refusals();
        C.end();
    }

    private static void asTheyStand() {
        MakerStarts x = C.right("type a{static field s=1;static block{mark s;s=s+1;}static field u=s*10;"
                + "static block{mark u;}field x=99;block{mark 98;}maker(){mark 97;}}");
        C.due("held before", x.held(0, 0), 0);
        C.due("start", x.start(0), 0);
        C.marks("as they stand", x, 1, 20);
        C.due("s", x.held(0, 0), 2);
        C.due("u", x.held(0, 2), 20);
        C.due("state", x.type(0, 3), 1);
        C.due("steps", x.told(4), 3);
        C.due("no thing came", x.told(3), 0);
    }

    private static void parentFirst() {
        MakerStarts x = C.right("type a{static block{mark 1;}}type b:a{static block{mark 2;}}type c:b{static block{mark 3;}}");
        C.due("start", x.start(2), 0);
        C.marks("the parents first", x, 1, 2, 3);
        C.due("state of a", x.type(0, 3), 1);
        C.due("state of b", x.type(1, 3), 1);
    }

    private static void once() {
        MakerStarts x = C.right("type a{static block{mark 1;}}");
        C.due("start", x.start(0), 0);
        C.due("start again", x.start(0), 0);
        C.due("steps of the second", x.told(4), 0);
        C.due("make", x.make(0, 0, 0, 0, 0), 0);
        C.marks("once", x, 1);
    }

    private static void askedFor() {
        MakerStarts x = C.right("type a{static block{mark 1;mark b.k;mark 2;mark b.s;b.s=c.s;mark 3;new d();}}"
                + "type b{const k=5;static field s=6;static block{mark 100;}}"
                + "type c:b{static block{mark 200;}}"
                + "type d{static block{mark 300;}}");
        C.due("start", x.start(0), 0);
        C.marks("a constant starts none, c.s starts b alone, new starts d", x, 1, 5, 2, 100, 6, 3, 300);
        C.due("c is not started", x.type(2, 3), 0);

        MakerStarts y = C.right("type a{static block{b.s=f.t;}}type b{static field s;static block{mark s;mark 2;}}"
                + "type f{static field t=7;static block{mark 1;}}");
        C.due("start", y.start(0), 0);
        C.marks("the type is started behind the EXP, ahead of the setting", y, 1, 0, 2);
        C.due("then it is set", y.held(1, 0), 7);
    }

    private static void underWay() {
        MakerStarts x = C.right("type a{static field s=1+b.t;}type b{static field t=a.s+10;static block{mark a.s;}}");
        C.due("start", x.start(0), 0);
        C.due("b saw a zero", x.held(1, 0), 10);
        C.due("a", x.held(0, 0), 11);
        C.marks("a zero", x, 0);

        MakerStarts y = C.right("type a{static block{b.s=5;b.u=6;new b();}}type b:a{static field s;static field u=1;maker(){mark s+u;}}");
        C.due("start of the lower one", y.start(1), 0);
        C.marks("it is under way", y, 11);
        C.due("without EXP it keeps what it was set to", y.held(1, 0), 5);
        C.due("with EXP it does not", y.held(1, 1), 1);
        C.due("b is started", y.type(1, 3), 1);
    }

    private static void ownFailure() {
        MakerStarts x = C.right("type a{static field s=5;static field u=1/0;static field v=6;}");
        C.due("start", x.start(0), 8);
        C.due("absent", x.type(0, 3), 2);
        C.due("s was set", x.held(0, 0), 5);
        C.due("v was not", x.held(0, 2), 0);
        C.due("asked again", x.start(0), 9);
        C.due("made", x.make(0, 0, 0, 0, 0), 9);
        C.due("the step of that new", x.told(4), 1);

        MakerStarts y = C.right("type a{static field s;static block{if(0<1){throw 4;}}}"
                + "type b{static block{try{mark a.s;}catch 8{mark 8;}try{a.s=1;}catch 9{mark 9;}try{new a();}catch 9{mark 99;}}}");
        C.due("start", y.start(1), 0);
        C.marks("8 first, then 9", y, 8, 9, 99);
        C.due("what was not set", y.held(0, 0), 0);

        MakerStarts z = C.right("type a{static field s=b.s;}type b{static field s=1%0;}type c{static field s=b.s;}");
        C.due("8 of b becomes 8 of a", z.start(0), 8);
        C.due("9 of b becomes 8 of c", z.start(2), 8);
        C.due("then c is absent", z.start(2), 9);
    }

    private static void parentFailure() {
        MakerStarts x = C.right("type a{static field s=1/0;}type b:a{static block{mark 1;}}type c:a{}type d:c{}");
        C.due("8 stays 8", x.start(1), 8);
        C.due("b is absent", x.type(1, 3), 2);
        C.due("a is absent", x.type(0, 3), 2);
        C.due("9 stays 9", x.start(3), 9);
        C.due("c is absent", x.type(2, 3), 2);
        C.due("d is absent", x.type(3, 3), 2);
        C.marks("its own blocks were not done", x);
    }

    private static void spent() {
        // f and its mark are 2 steps, six g with their marks 12, thirty h with theirs 60
        String acts = "act f(){mark g()+g()+g()+g()+g()+g();}act g(){mark h()+h()+h()+h()+h();}act h(){mark 1;}";
        MakerStarts x = C.right("type a{static block{new b();new c();}}type b{block{mark f();}" + acts + "}type c{}");
        C.due("not spent", x.start(0), 0);
        C.due("two more for each new, one for the mark of the block", x.told(4), 2 + 1 + 74 + 2);
        C.due("marks", x.told(1), 1 + 1 + 6 + 30);

        MakerStarts y = C.right("type c{static block{mark d.s;}}type d{static field s;}type b:c{block{mark f();}" + acts + "}"
                + "type a{static block{try{new b();new b();}finally{mark 1000;}}}");
        C.due("spent", y.start(3), 12);
        C.due("120 steps", y.told(4), 120);
        for (int i = 0; i < y.told(1); i++) {
            C.due("no finally was done: mark " + i, y.marked(i) == 1000 ? 1 : 0, 0);
        }
        C.due("the one under way is absent", y.type(3, 3), 2);
        for (int t = 0; t < 3; t++) {
            C.due("the others are started: " + t, y.type(t, 3), 1);
        }
        C.due("absent then", y.start(3), 9);
        C.due("no steps", y.told(4), 0);
    }

    private static void refusals() {
        MakerStarts x = C.right("type a{static block{mark 1;}}");
        C.due("start", x.start(0), 0);
        C.due("no such type", x.start(1), MakerStarts.NONE);
        C.due("no such type", x.start(-1), MakerStarts.NONE);
        C.due("no such type", x.start(Integer.MIN_VALUE), MakerStarts.NONE);
        C.due("no such type", x.start(Integer.MAX_VALUE), MakerStarts.NONE);
        C.due("steps stay", x.told(4), 1);
    }
}
