/** Promises 1 to 12, one after the other: each sentence that names an edge, refusals that change nothing, and their order. */
public final class CallsTest {
    private static final Checks C = new Checks();
    private static final int LOW = Integer.MIN_VALUE, HIGH = Integer.MAX_VALUE;
    private static final int[] NO_TYPES = {-1, 4, 5, 8, LOW, HIGH};

    /** One wrong text for each FAULT. */
    private static final String[] WRONG = {
        "type a{^@}", "type a{^x}", "type a{maker(p,q,r,^s){}}", "type a{}type ^a{}", "type a{field x=^y;}",
        "type a{field x;static field s=^x;}", "type a{field x=^x;}", "type a{const k=1;block{^k=1;}}", "type a{act f(){throw ^7;}}",
        "type a{maker()^this();{}}", "type a{^block{throw 4;}}",
    };

    public static void main(String[] args) {
        newObject();
        feedEachLength();
        feedBad();
        feedFull();
        tapeIsEmptied();
        readHowMany();
        readStartsNone();
        readWrongChangesNothing();
        placeOfTheLatest();
        toldEach();
        toldThings();
        typeEach();
        makeAnswers();
        makeFirstNumbers();
        makeRefusals();
        startAnswers();
        startRefusals();
        markedOnes();
        fieldOnes();
        fieldOfTheLatest();
        heldOnes();
        failsOnes();
        asManyCallsAsPromised();
        textsLeaveNothing();
        C.end();
    }

    /** A text with all sorts of MEMBERS, and things, starts and marks of it. */
    private static MakerStarts used() {
        MakerStarts x = C.right("type a{field x=4;static field s=5;const k=6;block{mark x;}maker(p)fails 1{x=p;if(p<0){throw 1;}}maker(p,q)fails 1,2{throw 2;}act f(){}}"
                + "type b:a{field y;maker()fails 1 super(9);{y=8;}}type c{static field s=1/0;}type d{maker(p,q,r){new d(p,q,r);}}");
        C.due("make", x.make(1, 0, 0, 0, 0), 0);
        C.due("start", x.start(2), 8);
        return x;
    }

    /** The call on an object that was used already (a fresh one each time: 512 calls are all that is promised). */
    private static void refused(String what, Checks.Ask ask, int answer) {
        refused(what, used(), ask, answer);
    }

    private static void refused(String what, MakerStarts x, Checks.Ask ask, int answer) {
        String before = Checks.state(x);
        int place = x.place();
        C.due(what, ask.of(x), answer);
        C.same(what, Checks.state(x), before);
        C.due(what + ": place", x.place(), place);
    }

    private static void thrown(String what, MakerStarts x, Checks.Ask ask, String name) {
        String before = Checks.state(x);
        C.dueThrow(what, () -> ask.of(x), name);
        C.same(what, Checks.state(x), before);
    }

    /** Promise 1: "No TYPES, an empty tape, nothing MARKED." */
    private static void newObject() {
        MakerStarts x = new MakerStarts();
        C.same("a new object", Checks.state(x), " told 0 told 0 told 0 told 0 told 0");
        C.due("place", x.place(), MakerStarts.NONE);
        refused("type", x, o -> o.type(0, 0), MakerStarts.NONE);
        refused("type, what is bad", x, o -> o.type(0, 9), MakerStarts.NONE);
        refused("make", x, o -> o.make(0, 0, 0, 0, 0), MakerStarts.NONE);
        refused("start", x, o -> o.start(0), MakerStarts.NONE);
        refused("fails", x, o -> o.fails(0, 0), MakerStarts.NONE);
        thrown("marked", x, o -> o.marked(0), Checks.INDEX);
        thrown("field", x, o -> o.field(0, 0), Checks.STATE);
        thrown("held", x, o -> o.held(0, 0), Checks.INDEX);
        MakerStarts y = new MakerStarts();
        Checks.feed(y, "type a{}");
        C.due("objects have each their own", x.told(2), 0);
        C.due("read of the one", x.read(), 0);
        C.due("read of the other", y.read(), 1);
    }

    /** Promise 2: "The lowest n bytes of w, the highest of these first, come behind the tape: how many it has." */
    private static void feedEachLength() {
        for (int n = 1; n <= 8; n++) {
            // all bytes above the lowest n begin no token; the lowest is the last of a word or a number of n bytes
            long above = n == 8 ? 0 : -1L << (8 * n);
            long bytes = 0;
            for (int i = 0; i < n; i++) {
                bytes = bytes << 8 | '1' + i;
            }
            MakerStarts x = new MakerStarts();
            Checks.feed(x, "type a{const k=");
            C.due("feed of " + n, x.feed(above | bytes, n), 15 + n);
            C.due("bytes on the tape", x.told(2), 15 + n);
            Checks.feed(x, ";}");
            C.due("read", x.read(), 1);
            C.due("the highest first", x.held(0, 0), Integer.parseInt("12345678".substring(0, n)));
        }
        MakerStarts y = new MakerStarts();
        C.due("the highest bit too", y.feed(0x8020202020202020L, 8), 8);
        C.due("read", y.read(), -21);
        C.due("place", y.place(), 0);
        C.due("a byte of zeros", y.feed(0x2000L, 2), 2);
        C.due("read", y.read(), -21);
        C.due("place", y.place(), 1);
    }

    /** "BAD: n is not 1 .. 8". */
    private static void feedBad() {
        for (int n : new int[] {0, -1, -8, 9, 10, 16, 64, 65, 256, 257, LOW, LOW + 1, HIGH}) {
            MakerStarts x = used();
            Checks.feed(x, "type a{");
            refused("feed of " + n, x, o -> o.feed(0x7d7d7d7d7d7d7d7dL, n), MakerStarts.BAD);
            Checks.feed(x, "}");
            C.due("nothing came between", x.read(), 1);
        }
    }

    /** "FULL": "THE TAPE has at most 1600 bytes". */
    private static void feedFull() {
        for (int free = 0; free <= 8; free++) {
            MakerStarts x = new MakerStarts();
            Checks.feed(x, " ".repeat(1600 - free));
            C.due("bytes", x.told(2), 1600 - free);
            for (int n = 1; n <= 8; n++) {
                int more = n;
                if (n > free) {
                    refused(n + " bytes where " + free + " are free", x, o -> o.feed(0x4040404040404040L, more), MakerStarts.FULL);
                }
            }
            refused("BAD ahead of FULL", x, o -> o.feed(0, 9), MakerStarts.BAD);
            refused("BAD ahead of FULL", x, o -> o.feed(0, 0), MakerStarts.BAD);
            if (free > 0) {
                C.due("as many as are free", x.feed(0x2020202020202020L, free), 1600);
            }
            refused("full", x, o -> o.feed(0x40, 1), MakerStarts.FULL);
            C.due("what was refused did not come", x.read(), 0);
            C.due("free again", x.feed(0x20, 1), 1);
        }
        MakerStarts y = new MakerStarts();
        Checks.feed(y, "type a{" + " ".repeat(1592) + "}");
        C.due("a text of 1600 bytes", y.read(), 1);
        Checks.feed(y, "type a{" + "\n".repeat(1593));
        C.due("one that ends too early", y.read(), -22);
        C.due("how many bytes there are", y.place(), 1600);
    }

    /** "what takes it empties it, right or not". */
    private static void tapeIsEmptied() {
        MakerStarts x = new MakerStarts();
        for (String wrong : WRONG) {
            Checks.feed(x, wrong.replace("^", ""));
            x.read();
            C.due("emptied by " + wrong, x.told(2), 0);
            C.due("the next byte is the first", x.feed(0x20, 1), 1);
            C.due("blanks alone", x.read(), 0);
            C.due("emptied", x.told(2), 0);
        }
    }

    /** Promise 3: "The tape is a text: how many TYPES". */
    private static void readHowMany() {
        StringBuilder b = new StringBuilder();
        for (int n = 0; n <= 8; n++) {
            MakerStarts x = new MakerStarts();
            Checks.feed(x, b.toString());
            C.due(n + " TYPES", x.read(), n);
            C.due("told", x.told(0), n);
            C.due("the last", x.type(n - 1, 1), n == 0 ? MakerStarts.NONE : 0);
            C.due("none behind it", x.type(n, 1), MakerStarts.NONE);
            b.append("type t").append(n).append("{}");
        }
        MakerStarts y = used();
        C.due("an empty tape", y.read(), 0);
        C.same("no TYPES are left", Checks.state(y), " told 0 told 0 told 0 told " + y.told(3) + " told " + y.told(4));
        C.due("make", y.make(0, 0, 0, 0, 0), MakerStarts.NONE);
    }

    /** "none is STARTED, nothing is MARKED". */
    private static void readStartsNone() {
        MakerStarts x = used();
        C.due("one was started", x.type(0, 3), 1);
        C.due("one was absent", x.type(2, 3), 2);
        C.due("some were marked", x.told(1), 1);
        C.reads(x, "type a{field x;static field s=2;const k=3;}type b:a{}type c{static field s=4;}type d{}");
        for (int t = 0; t < 4; t++) {
            C.due("not started: " + t, x.type(t, 3), 0);
        }
        C.marks("nothing is marked", x);
        C.due("s of a", x.held(0, 1), 0);
        C.due("k of a", x.held(0, 2), 3);
        C.dueThrow("there is no thing", () -> x.field(0, 0), Checks.STATE);
        C.due("c can be started", x.start(2), 0);
        C.due("s of c", x.held(2, 0), 4);
    }

    /** "-20 less the FAULT: all but the tape stays." */
    private static void readWrongChangesNothing() {
        for (int fault = 1; fault <= 11; fault++) {
            String marked = WRONG[fault - 1];
            C.fault(fault, marked);
            MakerStarts x = used();
            String before = Checks.state(x);
            Checks.feed(x, marked.replace("^", ""));
            C.due("read of " + marked, x.read(), -20 - fault);
            C.same(marked, Checks.state(x), before);
            C.due("place", x.place(), marked.indexOf('^'));
            C.due("what was started stays so", x.make(0, 1, 5, 0, 0), 0);
            C.due("x", x.field(0, 0), 5);
            C.due("what is absent stays so", x.start(2), 9);
            C.due("marks go on", x.told(1), 2);
        }
    }

    /** Promise 4: "The place of the FAULT of the latest text; NONE: it had none, or before one." */
    private static void placeOfTheLatest() {
        MakerStarts x = new MakerStarts();
        C.due("before one", x.place(), MakerStarts.NONE);
        Checks.feed(x, "type a{} @");
        C.due("before one, though bytes came", x.place(), MakerStarts.NONE);
        C.due("read", x.read(), -21);
        C.due("its place", x.place(), 9);
        C.due("asked again", x.place(), 9);
        Checks.feed(x, "@");
        C.due("still that of the latest text", x.place(), 9);
        C.due("read", x.read(), -21);
        C.due("the first byte", x.place(), 0);
        C.due("an empty text", x.read(), 0);
        C.due("it had none", x.place(), MakerStarts.NONE);
        Checks.feed(x, "type");
        C.due("ends too early", x.read(), -22);
        C.due("how many bytes there are", x.place(), 4);
        C.reads(x, "type a{}");
        x.make(0, 0, 0, 0, 0);
        C.due("make changes it not", x.place(), MakerStarts.NONE);
        Checks.feed(x, " ".repeat(1599) + "@");
        C.due("the last byte of all", x.read(), -21);
        C.due("its place", x.place(), 1599);
        x.make(0, 0, 0, 0, 0);
        x.start(0);
        C.due("make and start change it not", x.place(), 1599);
    }

    /** Promise 5: each of 0 .. 4, and "BAD". */
    private static void toldEach() {
        MakerStarts x = C.right("type a{maker(){mark 1;}maker(p){throw 4;}}type b{static block{mark 2;mark 3;mark 4;}}");
        int[][] due = {{2, 0, 0, 0, 0}, {2, 1, 0, 1, 2}, {2, 1, 0, 2, 2}, {2, 4, 0, 2, 3}, {2, 4, 0, 2, 0}, {2, 4, 5, 2, 0}, {2, 4, 0, 2, 0}, {0, 0, 0, 2, 0}};
        for (int i = 0; i < due.length; i++) {
            for (int what = 0; what <= 4; what++) {
                C.due("told(" + what + ") behind call " + i, x.told(what), due[i][what]);
            }
            if (i == 0) {
                x.make(0, 0, 0, 0, 0);
            } else if (i == 1) {
                x.make(0, 1, 0, 0, 0);
            } else if (i == 2 || i == 3) {
                x.start(1);
            } else if (i == 4) {
                Checks.feed(x, "typea");
            } else {
                x.read();
            }
        }
        for (int what : new int[] {-1, 5, 6, 32, LOW, HIGH}) {
            refused("told(" + what + ")", o -> o.told(what), MakerStarts.BAD);
        }
    }

    /** "3 how often a THING came in make() (also if its MAKER threw then)". */
    private static void toldThings() {
        MakerStarts x = C.right("type a{maker(){}maker(p)fails 1{throw 1;}maker(p,q){mark 1/0;}maker(p,q,r){new a(p,q,r);}}type b{static field s=1/0;}"
                + "type c{field x=1/0;}type d{maker(){" + Checks.repeat("mark 1;", 20) + "mark f()+f()+f()+f()+f();}act f(){" + Checks.repeat("mark 1;", 30) + "}}");
        C.due("0 before", x.told(3), 0);
        C.due("made", x.make(0, 0, 0, 0, 0), 0);
        C.due("one", x.told(3), 1);
        C.due("thrown", x.make(0, 1, 0, 0, 0), 1);
        C.due("two", x.told(3), 2);
        C.due("divided", x.make(0, 2, 0, 0, 0), 7);
        C.due("three", x.told(3), 3);
        C.due("too deep", x.make(0, 3, 0, 0, 0), 11);
        C.due("four", x.told(3), 4);
        C.due("thrown out of a field", x.make(2, 0, 0, 0, 0), 7);
        C.due("five", x.told(3), 5);
        C.due("spent", x.make(3, 0, 0, 0, 0), 12);
        C.due("six", x.told(3), 6);
        C.due("its start fails", x.make(1, 0, 0, 0, 0), 8);
        C.due("absent", x.make(1, 0, 0, 0, 0), 9);
        C.due("refused", x.make(9, 0, 0, 0, 0), MakerStarts.NONE);
        C.due("refused", x.make(0, 4, 0, 0, 0), MakerStarts.BAD);
        C.due("refused", x.make(1, 1, 0, 0, 0), MakerStarts.NONE);
        C.due("a start", x.start(2), 0);
        C.due("none came", x.told(3), 6);
    }

    /** Promise 6: "0 its PARENT (NONE), 1 MEMBERS, 2 makers, 3 .., 4 FIELDS of its own. NONE; BAD." */
    private static void typeEach() {
        MakerStarts x = C.right("type a{}type b:a{field x;static field s;const k=1;block{}static block{}maker(){}maker(p){}act f(){}}"
                + "type c:a{field x;field y;field z;}type d:c{maker(){}maker(p){}maker(p,q){}maker(p,q,r){}field w;static field v=1/0;}");
        int[][] due = {{-1, 0, 0, 0, 0}, {0, 8, 2, 0, 1}, {0, 3, 0, 0, 3}, {2, 6, 4, 0, 1}};
        for (int t = 0; t < 4; t++) {
            int type = t;
            for (int what = 0; what <= 4; what++) {
                C.due("type(" + t + ", " + what + ")", x.type(t, what), due[t][what]);
            }
            for (int what : new int[] {-1, 5, 6, LOW, HIGH}) {
                refused("type(" + t + ", " + what + ")", o -> o.type(type, what), MakerStarts.BAD);
            }
        }
        for (int t : NO_TYPES) {
            for (int what : new int[] {0, 1, 2, 3, 4, -1, 5, LOW, HIGH}) {
                refused("type(" + t + ", " + what + ")", o -> o.type(t, what), MakerStarts.NONE);
            }
        }
        C.due("start of b", x.start(1), 0);
        C.due("start of d", x.make(3, 0, 0, 0, 0), 8);
        int[] states = {1, 1, 1, 2};
        for (int t = 0; t < 4; t++) {
            C.due("3 of " + t, x.type(t, 3), states[t]);
        }
    }

    /** Promise 7: "0 it was made; else what was THROWN; 12 SPENT. MARKS go on." */
    private static void makeAnswers() {
        MakerStarts x = C.right("type a{maker(p)fails 1,2,3{mark p;if(p<1){}else{if(p<2){throw 1;}if(p<3){throw 2;}if(p<4){throw 3;}if(p<5){throw 4;}if(p<6){throw 5;}if(p<7){throw 6;}"
                + "if(p<8){mark 1/0;}if(p<9){new b();}if(p<10){new b();}new a(p);}}}type b{static field s=1/0;}type c{maker(){new c();}}");
        for (int p = 0; p <= 9; p++) {
            C.due("what was THROWN: " + p, x.make(0, 1, p, 0, 0), p);
            C.due("marks go on", x.told(1), p + 1);
            C.due("the last of them", x.marked(p), p);
        }
        C.due("11", x.make(2, 0, 0, 0, 0), 11);
        C.due("spent", x.make(0, 1, 10, 0, 0), 12);
        C.due("started", x.type(0, 3), 1);
        C.due("absent", x.type(1, 3), 2);
        C.due("well again", x.make(0, 1, -5, 0, 0), 0);
    }

    /** "by three numbers, of which the first n count". */
    private static void makeFirstNumbers() {
        MakerStarts x = C.right("type a{field x=1;field y=2;field z=3;maker(){}maker(p){x=p;}maker(p,q){x=p;y=q;}maker(p,q,r){x=p;y=q;z=r;}}");
        int[] given = {LOW, HIGH, -7};
        for (int n = 0; n <= 3; n++) {
            C.due("make", x.make(0, n, given[0], given[1], given[2]), 0);
            for (int f = 0; f < 3; f++) {
                C.due("field " + f + " of " + n, x.field(0, f), f < n ? given[f] : f + 1);
            }
        }
    }

    /** "NONE: the TYPE; BAD: n is not 0 .. 3; NONE: it has no maker of n PARAMETERS." */
    private static void makeRefusals() {
        for (int t : NO_TYPES) {
            for (int n : new int[] {0, 1, 3, 4, -1, LOW, HIGH}) {
                refused("make of type " + t + " with " + n, o -> o.make(t, n, 1, 2, 3), MakerStarts.NONE);
            }
        }
        for (int t = 0; t < 4; t++) {
            int type = t;
            for (int n : new int[] {4, 5, -1, LOW, HIGH}) {
                refused("make of " + t + " with " + n, o -> o.make(type, n, 1, 2, 3), MakerStarts.BAD);
            }
        }
        int[][] none = {{0, 3}, {1, 2, 3}, {1, 2, 3}, {0, 1, 2}};
        for (int t = 0; t < 4; t++) {
            int type = t;
            for (int n : none[t]) {
                refused("make of " + t + " with " + n, o -> o.make(type, n, 1, 2, 3), MakerStarts.NONE);
            }
        }
        C.due("c has one without PARAMETERS, though it is absent", used().make(2, 0, 0, 0, 0), 9);
    }

    /** Promise 8: "A TYPE is asked for: 0; else what was THROWN; 12 SPENT." */
    private static void startAnswers() {
        MakerStarts x = C.right("type a{static block{mark 1;}}type b:a{static field s=1/0;}type c:b{}type d:a{}type e{static block{new e();}}"
                + "type f{static block{" + Checks.repeat("new f(1);", 31) + "}maker(p){mark p;mark p;}}");
        C.due("0", x.start(3), 0);
        C.due("0 again", x.start(3), 0);
        C.due("0, by its child", x.start(0), 0);
        C.marks("once", x, 1);
        C.due("8", x.start(2), 8);
        C.due("9", x.start(2), 9);
        C.due("9, by its child", x.start(1), 9);
        C.due("it makes one of its own", x.start(4), 0);
        C.due("12", x.start(5), 12);
        C.due("9 then", x.start(5), 9);
        int[] states = {1, 2, 2, 1, 1, 2};
        for (int t = 0; t < 6; t++) {
            C.due("state of " + t, x.type(t, 3), states[t]);
        }
        C.due("no thing of make()", x.told(3), 0);
        C.dueThrow("no thing of make()", () -> x.field(4, 0), Checks.STATE);
    }

    private static void startRefusals() {
        for (int t : NO_TYPES) {
            refused("start of " + t, o -> o.start(t), MakerStarts.NONE);
        }
    }

    /** Promise 9: "MARK i. IndexOutOfBoundsException: there is none such." */
    private static void markedOnes() {
        String text = "type a{maker(p,q){mark p;mark q;}}";
        thrown("0 of none", C.right(text), o -> o.marked(0), Checks.INDEX);
        MakerStarts x = C.right(text);
        C.due("make", x.make(0, 2, LOW, HIGH, 0), 0);
        C.due("0", x.marked(0), LOW);
        C.due("1", x.marked(1), HIGH);
        for (int i : new int[] {2, 3, 199, 200, 201, -1, LOW, HIGH}) {
            MakerStarts y = C.right(text);
            C.due("make", y.make(0, 2, LOW, HIGH, 0), 0);
            thrown("marked(" + i + ")", y, o -> o.marked(i), Checks.INDEX);
        }
    }

    private static final String FIELDS = "type a{const k=1;block{}field x=11;static field s;act f(){}field y=12;maker(){}field z=13;}"
            + "type b:a{field x=21;field w=22;}type c:b{}type d:a{field v=41;}type e{field x=51;}";

    /** An object with a THING of this TYPE, without one if there is no such TYPE. */
    private static MakerStarts with(int made) {
        MakerStarts x = C.right(FIELDS);
        if (made >= 0) {
            C.due("make of " + made, x.make(made, 0, 0, 0, 0), 0);
        }
        return x;
    }

    /** Promise 10: "FIELD f (by its place among all MEMBERS of its TYPE) of TYPE t", and its exceptions in their order. */
    private static void fieldOnes() {
        int[] bad = {-1, 0, 5, 8, 9, LOW, HIGH};
        for (int t : bad) {
            for (int f : bad) {
                thrown("no thing, ahead of all: " + t + ", " + f, with(-1), o -> o.field(t, f), Checks.STATE);
            }
        }
        MakerStarts x = with(2);
        C.due("x of a", x.field(0, 2), 11);
        C.due("y of a", x.field(0, 5), 12);
        C.due("z of a", x.field(0, 7), 13);
        C.due("x of b", x.field(1, 0), 21);
        C.due("w of b", x.field(1, 1), 22);
        for (int f : new int[] {0, 1, 3, 4, 6, 8, 9, -1, LOW, HIGH}) {
            thrown("no FIELD of a: " + f, with(2), o -> o.field(0, f), Checks.INDEX);
        }
        for (int f : new int[] {2, 3, 7, -1}) {
            thrown("no FIELD of b: " + f, with(2), o -> o.field(1, f), Checks.INDEX);
        }
        thrown("c has none, nor those of b", with(2), o -> o.field(2, 0), Checks.INDEX);
        for (int t : new int[] {-1, 5, 6, 8, LOW, HIGH}) {
            thrown("no such TYPE: " + t, with(2), o -> o.field(t, 0), Checks.INDEX);
        }
        for (int t : new int[] {3, 4}) {
            for (int f : new int[] {0, 1, -1, LOW, HIGH}) {
                thrown("not BELOW " + t + ", whatever f is", with(2), o -> o.field(t, f), Checks.STATE);
            }
        }
        C.due("x of a", with(0).field(0, 2), 11);
        for (int t = 1; t < 5; t++) {
            int type = t;
            thrown("those below are no more than others: " + t, with(0), o -> o.field(type, 0), Checks.STATE);
        }
    }

    /** "of the THING of the latest make(), as that left it". */
    private static void fieldOfTheLatest() {
        MakerStarts x = C.right("type a{field x;maker(p){x=p;if(p<0){throw 4;}x=x*2;}maker(){x=1;new a(50);}maker(p,q){x=3;x=f();}act f(){x=4;" + Checks.repeat("x=5;", 60) + "x=f();}}"
                + "type b{static field s=1/0;}type c{static block{new a(9);}}type d:a{maker()super(8);{}}");
        C.due("made", x.make(0, 1, 6, 0, 0), 0);
        C.due("as that left it", x.field(0, 0), 12);
        C.due("thrown", x.make(0, 1, -6, 0, 0), 4);
        C.due("as that left it", x.field(0, 0), -6);
        C.due("another was made within", x.make(0, 0, 0, 0, 0), 0);
        C.due("not that one", x.field(0, 0), 1);
        C.due("spent", x.make(0, 2, 0, 0, 0), 12);
        C.due("as that left it", x.field(0, 0), 5);
        C.due("a start makes one", x.start(2), 0);
        C.due("that is not of make()", x.field(0, 0), 5);
        C.due("refused", x.make(0, 3, 0, 0, 0), MakerStarts.NONE);
        C.due("it stays", x.field(0, 0), 5);
        C.due("of one below", x.make(3, 0, 0, 0, 0), 0);
        C.due("x of a", x.field(0, 0), 16);
        C.due("its start fails", x.make(1, 0, 0, 0, 0), 8);
        C.dueThrow("no THING of the latest make()", () -> x.field(0, 0), Checks.STATE);
        C.due("made", x.make(0, 1, 6, 0, 0), 0);
        C.due("there is one again", x.field(0, 0), 12);
        C.due("absent", x.make(1, 0, 0, 0, 0), 9);
        C.dueThrow("no THING of the latest make()", () -> x.field(0, 0), Checks.STATE);
    }

    /** Promise 11: "STATIC or CONSTANT f (likewise) of TYPE t by now, without STARTING it." */
    private static void heldOnes() {
        MakerStarts x = C.right("type a{block{}static field s=7;field x;const k=8;act f(){}static block{mark 1;}maker(){s=s+1;}static field u;}type b:a{const l=9;}");
        C.due("s", x.held(0, 1), 0);
        C.due("k", x.held(0, 3), 8);
        C.due("u", x.held(0, 7), 0);
        C.due("l", x.held(1, 0), 9);
        C.due("without STARTING it", x.type(0, 3), 0);
        C.marks("without STARTING it", x);
        C.due("make", x.make(0, 0, 0, 0, 0), 0);
        C.due("s by now", x.held(0, 1), 8);
        C.due("make", x.make(1, 0, 0, 0, 0), 0);
        C.due("s by now", x.held(0, 1), 9);
        C.due("k of a", with(2).held(0, 0), 1);
        C.due("s of a", with(2).held(0, 3), 0);
        for (int f : new int[] {1, 2, 4, 5, 6, 7, 8, 9, -1, LOW, HIGH}) {
            thrown("none such: " + f, with(2), o -> o.held(0, f), Checks.INDEX);
        }
        for (int f : new int[] {0, 1, 3, 7, -1, LOW, HIGH}) {
            thrown("b has none of a: " + f, with(2), o -> o.held(1, f), Checks.INDEX);
        }
        for (int t : new int[] {-1, 5, 8, LOW, HIGH}) {
            for (int f : new int[] {0, 3, -1, LOW, HIGH}) {
                thrown("no such TYPE: " + t, with(2), o -> o.held(t, f), Checks.INDEX);
            }
        }
        MakerStarts y = C.right("type a{static field s=3;static field t=1/0;static field u=5;}");
        C.due("start", y.start(0), 8);
        C.due("what an absent one had", y.held(0, 0), 3);
        C.due("what it had not", y.held(0, 2), 0);
    }

    /** Promise 12: "NONE: there is none such." */
    private static void failsOnes() {
        MakerStarts x = used();
        int[][] due = {{-1, 1 << 1, 1 << 2, -1}, {1 << 1, -1, -1, -1}, {0, -1, -1, -1}, {-1, -1, -1, 0}};
        for (int t = 0; t < 4; t++) {
            int type = t;
            for (int n = 0; n <= 3; n++) {
                C.due("fails(" + t + ", " + n + ")", x.fails(t, n), due[t][n]);
            }
            for (int n : new int[] {-1, 4, 5, LOW, HIGH}) {
                refused("fails(" + t + ", " + n + ")", o -> o.fails(type, n), MakerStarts.NONE);
            }
        }
        for (int t : NO_TYPES) {
            for (int n : new int[] {-1, 0, 1, 2, 3, 4, LOW, HIGH}) {
                refused("fails(" + t + ", " + n + ")", o -> o.fails(t, n), MakerStarts.NONE);
            }
        }
        MakerStarts y = C.right("type a{maker()fails 1,2,3,4,5,6{throw 1;throw 2;throw 3;throw 4;throw 5;throw 6;}}");
        C.due("bits 1 to 6", y.fails(0, 0), 126);
        C.due("asked without STARTING it", y.type(0, 3), 0);
    }

    /** "An object is used for at most 512 calls after it has been made". */
    private static void asManyCallsAsPromised() {
        MakerStarts x = new MakerStarts();
        Checks.feed(x, "type a{static field s;field x;maker(p){s=s+p;x=s;if(p<0){throw 4;}}}   ");
        C.due("read", x.read(), 1);
        for (int i = 1; i <= 500; i++) {
            C.due("call " + i, x.make(0, 1, i % 2 == 0 ? -i : i, 0, 0), i % 2 == 0 ? 4 : 0);
        }
        C.due("s", x.held(0, 0), -250);
        C.due("things", x.told(3), 500);
    }

    /** What an earlier text told, right or wrong, means nothing in the next one. */
    private static void textsLeaveNothing() {
        MakerStarts x = new MakerStarts();
        for (int i = 0; i < 8; i++) {
            Checks.feed(x, "type a{field x=7;act f(){return x;}maker(p){mark p" + "-p-x-f()-q".repeat(30) + ";}}");
            C.due("a long wrong text", x.read(), -25);
        }
        C.reads(x, "type a{block{mark 1+2+3+4+5+6+7+8+9+10;mark 77;}}");
        C.due("make", x.make(0, 0, 0, 0, 0), 0);
        C.marks("numbers, where names stood", x, 55, 77);
        MakerStarts y = new MakerStarts();
        for (int i = 0; i < 8; i++) {
            C.reads(y, "type a{maker(p){mark p" + "-p-1".repeat(40 + i) + ";}}");
            C.due("make", y.make(0, 1, 2, 0, 0), 0);
            C.marks("text " + i, y, 2 - 3 * (40 + i));
        }
        C.reads(y, "");
        Checks.feed(y, "type b:a{}");
        C.due("a type of an earlier text", y.read(), -25);
        Checks.feed(y, "type b{block{new a();}}");
        C.due("a type of an earlier text", y.read(), -25);
    }
}
