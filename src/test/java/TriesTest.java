/** "2 MAKING", try: what is taken, what finally does, and what counts instead; each clause has its own rows. */
public final class TriesTest {
    private static final Checks C = new Checks();

    public static void main(String[] args) {
        takenByItsNumber();
        everyNumberOfCatch();
        notOutOfCatchOrFinally();
        finallyInAnyCase();
        whatFinallyThrowsCounts();
        whatFinallyReturnsCounts();
        finallyWithin();
        outOfOthers();
        asDeepAsCanBe();
        againAndAgain();
        C.end();
    }

    private static void maker(String body, int answer, int... marks) {
        MakerStarts x = C.right("type a{maker(p)fails 1,2,3{" + body + "mark 99;}act f(){throw 4;}act g(){mark 1/0;}}"
                + "type b{static field s=1/0;}type c{maker()fails 1,2,3{throw 2;}}");
        C.due("make of " + body, x.make(0, 1, 0, 0, 0), answer);
        C.marks(body, x, marks);
    }

    private static void act(String body, int returned, int... marks) {
        MakerStarts x = C.right("type a{field x;maker(){x=f();}act f(){" + body + "}}");
        C.due("make of " + body, x.make(0, 0, 0, 0, 0), 0);
        C.due(body + " returns", x.field(0, 0), returned);
        C.marks(body, x, marks);
    }

    /** "what is THROWN out of its BODY, if it is the NUMBER of catch, is taken by it". */
    private static void takenByItsNumber() {
        for (int k = 1; k <= 6; k++) {
            for (int by = 4; by <= 9; by++) {
                String body = "try{throw " + k + ";mark 1;}catch " + by + "{mark 2;}";
                if (k == by) {
                    maker(body, 0, 2, 99);
                } else {
                    maker(body, k);
                }
            }
            maker("try{throw " + k + ";mark 1;}catch " + k + "{mark 2;}", 0, 2, 99);
        }
        maker("try{mark 1;}catch 4{mark 2;}", 0, 1, 99);
    }

    /** "behind catch not 1 .. 9": 7, 8 and 9 are taken as well. */
    private static void everyNumberOfCatch() {
        maker("try{mark 1/p;}catch 7{mark 2;}", 0, 2, 99);
        maker("try{mark 1%p;}catch 7{mark 2;}", 0, 2, 99);
        maker("try{mark 1/p;}catch 8{mark 2;}", 7);
        maker("try{mark b.s;}catch 8{mark 2;}", 0, 2, 99);
        maker("try{mark b.s;}catch 7{mark 2;}", 8);
        maker("try{mark b.s;}catch 8{mark 2;}try{mark b.s;}catch 9{mark 3;}", 0, 2, 3, 99);
        maker("try{mark b.s;}catch 8{mark 2;}try{mark b.s;}catch 8{mark 3;}", 9, 2);
        maker("try{new b();}catch 8{mark 2;}try{new b();}catch 9{mark 3;}", 0, 2, 3, 99);
        maker("try{b.s=1;}catch 8{mark 2;}try{b.s=1;}catch 9{mark 3;}", 0, 2, 3, 99);
        maker("try{p=f();}catch 4{mark 2;}", 0, 2, 99);
        maker("try{p=g();}catch 7{mark 2;}", 0, 2, 99);
        maker("try{new c();}catch 2{mark 2;}", 0, 2, 99);
        maker("try{new c();}catch 1{mark 2;}", 2);
    }

    private static void notOutOfCatchOrFinally() {
        maker("try{throw 4;}catch 4{mark 1;throw 4;}", 4, 1);
        maker("try{mark 1;}catch 4{mark 2;}finally{if(0<1){throw 4;}}", 4, 1);
        maker("try{try{throw 4;}catch 4{throw 4;}}catch 4{mark 1;}", 0, 1, 99);
        maker("try{throw 4;}catch 4{try{throw 4;}catch 4{mark 1;}mark 2;}", 0, 1, 2, 99);
        maker("try{throw 4;}catch 4{mark 1/p;}finally{mark 2;}", 7, 2);
        maker("try{throw 4;}catch 4{}throw 4;", 4);
        maker("try{}catch 4{}throw 4;", 4);
        maker("try{mark 1;}finally{mark 2;}throw 4;", 4, 1, 2);
    }

    /** "finally is done in any case". */
    private static void finallyInAnyCase() {
        maker("try{mark 1;}finally{mark 2;}", 0, 1, 2, 99);
        maker("try{mark 1;}catch 4{mark 3;}finally{mark 2;}", 0, 1, 2, 99);
        maker("try{throw 4;}finally{mark 2;}", 4, 2);
        maker("try{throw 4;}catch 5{mark 3;}finally{mark 2;}", 4, 2);
        maker("try{throw 4;}catch 4{mark 3;}finally{mark 2;}", 0, 3, 2, 99);
        maker("try{throw 4;}catch 4{mark 3;throw 5;}finally{mark 2;}", 5, 3, 2);
        maker("try{mark 1/0;}finally{mark 2;}", 7, 2);
        maker("try{p=f();}finally{mark 2;}", 4, 2);
        act("try{return 5;}finally{mark 1;}", 5, 1);
        act("try{return 5;}catch 4{mark 2;}finally{mark 1;}", 5, 1);
        act("try{throw 4;}catch 4{return 6;}finally{mark 1;}", 6, 1);
        act("try{mark 2;}finally{mark 1;}return 7;", 7, 2, 1);
        act("try{mark 2;}finally{mark 1;}", 0, 2, 1);
        act("try{if(0<1){try{return 5;}finally{mark 1;}}}finally{mark 2;}", 5, 1, 2);
        // what is returned is what it was ahead of finally
        act("x=5;try{return x;}finally{x=8;mark x;}", 5, 8);
    }

    /** "what it throws .. counts instead". */
    private static void whatFinallyThrowsCounts() {
        maker("try{throw 4;}finally{throw 5;}", 5);
        maker("try{mark 1;}finally{throw 5;}", 5, 1);
        maker("try{throw 4;}catch 4{mark 1;}finally{throw 5;}", 5, 1);
        maker("try{throw 4;}catch 4{throw 6;}finally{throw 5;}", 5);
        maker("try{throw 4;}finally{mark 1/p;}", 7);
        maker("try{try{throw 4;}finally{throw 5;}}catch 5{mark 1;}", 0, 1, 99);
        maker("try{try{throw 4;}finally{throw 5;}}catch 4{mark 1;}", 5);
        act("try{try{return 5;}finally{throw 4;}}catch 4{mark 1;}return 6;", 6, 1);
        act("try{return 5;}finally{try{throw 4;}catch 4{mark 1;}}", 5, 1);
    }

    /** "(or returns) counts instead". */
    private static void whatFinallyReturnsCounts() {
        act("try{return 5;}finally{return 6;}", 6);
        act("try{throw 4;}finally{return 6;}", 6);
        act("try{throw 4;}catch 4{throw 5;}finally{return 6;}", 6);
        act("try{throw 4;}catch 4{return 5;}finally{return 6;}", 6);
        act("try{mark 1/0;}finally{return 6;}", 6);
        act("try{mark 1;}finally{return 6;}mark 2;", 6, 1);
        act("try{try{return 5;}finally{return 6;}}finally{return 7;}", 7);
        act("try{try{throw 4;}finally{return 6;}}catch 4{mark 1;}finally{mark 2;}", 6, 2);
        act("try{return 5;}finally{if(x<0){return 6;}}", 5);
        act("try{return 5;}finally{if(0-1<x){return 6;}}", 6);
        act("try{return 1/0;}catch 7{return 8;}", 8);
    }

    private static void finallyWithin() {
        maker("try{throw 4;}finally{try{throw 5;}catch 5{mark 1;}finally{mark 2;}mark 3;}", 4, 1, 2, 3);
        maker("try{throw 4;}finally{try{mark 1;}finally{mark 2;}}", 4, 1, 2);
        maker("try{try{throw 4;}finally{mark 1;}}finally{mark 2;}", 4, 1, 2);
        maker("try{try{throw 4;}finally{mark 1;}}catch 4{mark 2;}finally{mark 3;}", 0, 1, 2, 3, 99);
        maker("try{throw 4;}catch 4{try{throw 5;}finally{mark 1;}}finally{mark 2;}", 5, 1, 2);
    }

    /** Out of makers, acts and starts that stand in the BODY, each with tries of its own. */
    private static void outOfOthers() {
        MakerStarts x = C.right("type a{maker()fails 2{try{new b();}catch 3{mark 3;}finally{mark 4;}}}"
                + "type b{maker()fails 2,3{try{mark f();}catch 5{mark 5;}finally{mark 6;}}act f(){try{mark g();}finally{mark 7;}}act g(){throw 4;}}");
        C.due("make", x.make(0, 0, 0, 0, 0), 4);
        C.marks("each finally, from the innermost", x, 7, 6, 4);

        MakerStarts y = C.right("type a{maker(){try{mark b.s;}catch 8{mark 1;}}}type b{static field s;static block{try{mark 1/0;}finally{mark 2;}}}");
        C.due("make", y.make(0, 0, 0, 0, 0), 0);
        C.marks("7 becomes 8", y, 2, 1);
    }

    /** Seven tries within the maker's BODY: that one is within no others, the innermost within seven. */
    private static void asDeepAsCanBe() {
        StringBuilder six = new StringBuilder();
        for (int i = 1; i <= 6; i++) {
            six.append("}catch 5{mark 0;}finally{mark ").append(i).append(";}");
        }
        String ahead = Checks.repeat("try{", 7) + "throw 4;" + six;
        maker(ahead + "}catch 5{mark 0;}finally{mark 7;}", 4, 1, 2, 3, 4, 5, 6, 7);
        maker(ahead + "}catch 4{mark 70;}", 0, 1, 2, 3, 4, 5, 6, 70, 99);
        maker(Checks.repeat("try{throw 4;}catch 4{", 7) + "mark 1;" + Checks.repeat("}", 7), 0, 1, 99);
        maker(Checks.repeat("try{}finally{", 7) + "mark 1;" + Checks.repeat("}", 7), 0, 1, 99);
        maker(Checks.repeat("try{throw 4;}finally{", 7) + "mark 1;" + Checks.repeat("}", 7), 4, 1);
    }

    /** A try is left whole: the next one, and the next maker, begin without it. */
    private static void againAndAgain() {
        StringBuilder body = new StringBuilder();
        for (int i = 0; i < 20; i++) {
            body.append("try{throw 4;}catch 4{}");
        }
        maker(body + "throw 4;", 4);
        MakerStarts x = C.right("type a{maker(p){try{if(0<p){throw 4;}}catch 5{mark 5;}finally{mark 1;}}maker(){throw 5;}}");
        for (int i = 0; i < 20; i++) {
            C.due("thrown out of its try", x.make(0, 1, 1, 0, 0), 4);
            C.due("no try here", x.make(0, 0, 0, 0, 0), 5);
            C.due("well", x.make(0, 1, 0, 0, 0), 0);
        }
        C.due("marks", x.told(1), 40);
    }
}
