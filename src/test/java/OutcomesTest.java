/** "Terms", FAULT 11 and promise 12: each clause on what CAN END WELL and what CAN COME OUT. */
public final class OutcomesTest {
    private static final Checks C = new Checks();

    public static void main(String[] args) {
        bodiesWhoseSAllCan();
        ifWithElseOfWhichNeitherCan();
        tryOfWhichNeitherCan();
        finallyThatCant();
        blocksAlone();
        checkedOutOfStaticBlocks();
        checkedOutOfActs();
        checkedOutOfMakers();
        checkedOutOfTypesWithoutMakers();
        checkedCatch();
        outOfThrow();
        outOfNew();
        outOfTry();
        outOfFinallyAlone();
        outOfIf();
        outOfMakers();
        outOfTypesWithoutMakers();
        outOfNothingElse();
        C.end();
    }

    /** A block of it can end well; and so can the act, whatever stands in it. */
    private static void well(String body) {
        C.right("type a{block{" + body + "}}");
        C.right("type a{static block{" + body + "}}");
        C.right("type a{act f(){" + body + "}maker(){" + body + "}}");
    }

    private static void unwell(String body) {
        C.fault(11, "type a{^block{" + body + "}}");
        C.fault(11, "type a{static ^block{" + body + "}}");
        C.right("type a{act f(){" + body + "}maker(){" + body + "}}");
    }

    /** "CAN END WELL: a BODY whose S all can; all S but throw, return". */
    private static void bodiesWhoseSAllCan() {
        well("");
        well("mark 1;");
        unwell("throw 4;");
        unwell("throw 4;mark 1;");
        unwell("mark 1;throw 4;");
        unwell("mark 1;throw 6;mark 2;");
        unwell("throw 4;if(0<1){}else{}");
        unwell("throw 4;if(0<1){}");
        unwell("throw 4;try{}finally{}");
        unwell("throw 4;try{}catch 4{}");
        unwell("throw 4;new a();");
        unwell("throw 4;throw 5;");
    }

    /** "an if with else of which neither can". */
    private static void ifWithElseOfWhichNeitherCan() {
        well("if(0<1){throw 4;}");
        well("if(0<1){throw 4;}else{}");
        well("if(0<1){}else{throw 4;}");
        unwell("if(0<1){throw 4;}else{throw 4;}");
        unwell("if(0<1){throw 4;}else{if(1<0){throw 4;}else{throw 5;}}");
        well("if(0<1){throw 4;}else{if(1<0){throw 4;}}");
        unwell("if(0<1){throw 4;}else{throw 4;}mark 1;");
        well("if(0<1){if(0<1){throw 4;}else{throw 5;}}");
    }

    /** "a try of which neither BODY nor catch can". */
    private static void tryOfWhichNeitherCan() {
        well("try{}catch 4{}");
        well("try{throw 4;}catch 4{}");
        well("try{}catch 4{throw 4;}");
        unwell("try{throw 4;}catch 4{throw 4;}");
        unwell("try{throw 4;}catch 5{throw 6;}");
        well("try{throw 4;}catch 5{}");
        unwell("try{throw 4;}finally{}");
        well("try{}finally{}");
        well("try{throw 4;}catch 4{}finally{}");
        well("try{}catch 4{throw 5;}finally{}");
        unwell("try{throw 4;}catch 4{throw 5;}finally{}");
        unwell("try{try{throw 4;}catch 4{throw 5;}}catch 6{throw 5;}");
        well("try{try{throw 4;}catch 4{throw 5;}}catch 6{}");
    }

    /** "or finally can't". */
    private static void finallyThatCant() {
        unwell("try{}finally{throw 4;}");
        unwell("try{}catch 4{}finally{throw 4;}");
        unwell("try{throw 4;}catch 4{}finally{throw 4;}");
        unwell("try{}finally{if(0<1){throw 4;}else{throw 5;}}");
        well("try{}finally{if(0<1){throw 4;}}");
        unwell("try{}finally{try{throw 4;}finally{}}");
        well("try{}finally{try{throw 4;}catch 4{}}");
    }

    /** "11 a block that can't end well (at block)": acts and makers may. */
    private static void blocksAlone() {
        C.right("type a{maker(){throw 4;}maker(p){if(0<p){throw 4;}else{throw 5;}}act f(){throw 4;}act g(){return 1;}}");
        C.fault(11, "type a{field x;^block{throw 5;}block{throw 5;}}");
        C.fault(11, "type a{static block{}static ^block{throw 5;}}");
        C.fault(11, "type a{^static block{throw 1;}}");
        C.right("type a{act f(){try{return 1;}finally{}}act g(){try{}finally{return 1;}}}");
    }

    /** "1 to 3 (CHECKED) that can come out: of a static block (at static)". */
    private static void checkedOutOfStaticBlocks() {
        for (int k = 1; k <= 6; k++) {
            String body = "if(0<1){throw " + k + ";}";
            if (k <= 3) {
                C.fault(11, "type a{^static block{" + body + "}}");
                C.fault(11, "type a{^static block{new b();}}type b{maker()fails " + k + "{}}");
            } else {
                C.right("type a{static block{" + body + "}}");
                C.right("type a{static block{new b();}}type b{maker()fails " + k + "{}}");
            }
            C.right("type a{static block{try{" + body + "}catch " + k + "{}}}");
            C.right("type a{static block{try{new b();}catch " + k + "{}}}type b{maker()fails " + k + "{}}");
        }
        C.fault(11, "type a{maker()fails 1{}^static block{if(0<1){throw 1;}}}");
    }

    /** "of an act (at act)". */
    private static void checkedOutOfActs() {
        for (int k = 1; k <= 6; k++) {
            if (k <= 3) {
                C.fault(11, "type a{field x;^act f(){throw " + k + ";}}");
                C.fault(11, "type a{^act f(){if(0<1){}else{new b();}return 1;}}type b{maker()fails 4," + k + "{}}");
            } else {
                C.right("type a{field x;act f(){throw " + k + ";}}");
                C.right("type a{act f(){if(0<1){}else{new b();}return 1;}}type b{maker()fails 4," + k + "{}}");
            }
            C.right("type a{act f(){try{throw " + k + ";}finally{return 1;}}}");
        }
    }

    /** "of a maker that does not tell it behind fails (at maker)". */
    private static void checkedOutOfMakers() {
        for (int k = 1; k <= 6; k++) {
            int other = k % 3 + 1;
            C.right("type a{maker()fails " + k + "{throw " + k + ";}}");
            C.right("type a{maker()fails " + other + ",4," + k + "{throw " + k + ";}}");
            if (k <= 3) {
                C.fault(11, "type a{^maker(){throw " + k + ";}}");
                C.fault(11, "type a{^maker()fails " + other + "{throw " + k + ";}}");
                C.fault(11, "type a{maker()fails " + k + "{}^maker(p){throw " + k + ";}}");
                C.fault(11, "type a{maker()fails " + k + "{}^maker(p)this();{}}");
                C.fault(11, "type a{maker()fails " + k + "{}}type b:a{^maker(){}}");
                C.fault(11, "type a{maker(p)fails " + k + "{}}type b:a{^maker()super(1);{}}");
                C.fault(11, "type a{^maker(){}block{if(0<1){throw " + k + ";}}}");
                C.fault(11, "type a{^maker(){new b();}}type b{maker()fails " + k + "{}}");
            } else {
                C.right("type a{maker(){throw " + k + ";}}");
                C.right("type a{maker()fails " + k + "{}maker(p)this();{}}type b:a{maker(){}}type c:a{}");
            }
        }
        // with this, the blocks are those of the other maker
        C.right("type a{maker()fails 1{}block{if(0<1){throw 1;}}maker(p)fails 1 this();{}}");
        C.fault(11, "type a{maker()fails 1{}block{if(0<1){throw 1;}}^maker(p)fails 2 this();{}}");
        C.right("type a{maker()fails 1,2{}}type b:a{maker()fails 2,1{}}");
        C.fault(11, "type a{maker()fails 1,2{}}type b:a{^maker()fails 2{}}");
        // what is told counts, not what can come out of it
        C.fault(11, "type a{maker()fails 3{}}type b:a{^maker(){}}");
    }

    /** "of a TYPE without makers (at its NAME)". */
    private static void checkedOutOfTypesWithoutMakers() {
        for (int k = 1; k <= 6; k++) {
            String block = "block{if(0<1){throw " + k + ";}}";
            if (k <= 3) {
                C.fault(11, "type ^a{" + block + "}");
                C.fault(11, "type a{maker()fails " + k + "{}}type ^b:a{}");
                C.fault(11, "type a{field x;}type ^b:a{field y;" + block + "}");
            } else {
                C.right("type a{" + block + "}type b:a{" + block + "}");
                C.right("type a{maker()fails " + k + "{}}type b:a{}type c:b{}");
            }
            C.right("type a{" + block + "maker()fails " + k + "{}}");
        }
    }

    /** "catch of a CHECKED one that can't come out of its try (at its NUMBER)". */
    private static void checkedCatch() {
        for (int k = 1; k <= 9; k++) {
            String behind = "catch " + k + "{}";
            String marked = "catch ^" + k + "{}";
            String[] without = {"", "mark 1;", "throw 4;", "new a();", "try{}catch 9{}", "if(0<1){throw 5;}"};
            for (String body : without) {
                if (k <= 3) {
                    C.fault(11, "type a{maker(){try{" + body + "}" + marked + "}}");
                } else {
                    C.right("type a{maker(){try{" + body + "}" + behind + "}}");
                }
            }
            if (k <= 3) {
                String[] with = {"throw K;", "if(0<1){throw K;}", "if(0<1){}else{throw K;}", "new b();", "throw 4;throw K;",
                    "try{}catch 4{throw K;}", "try{}finally{if(0<1){throw K;}}", "try{throw K;}finally{}", "try{throw K;}catch K{throw K;}"};
                for (String body : with) {
                    String its = body.replace("K", "" + k);
                    C.right("type a{maker(){try{" + its + "}" + behind + "}}type b{maker()fails 5," + k + "{}}");
                    // neither out of its own catch or finally, nor out of a try that has taken it
                    C.fault(11, "type a{maker()fails 1,2,3{try{}" + marked.replace("{}", "{" + its.replace("catch " + k, "catch 4") + "}")
                            + "}}type b{maker()fails 5," + k + "{}}");
                    C.fault(11, "type a{maker()fails 1,2,3{try{}" + marked + "finally{" + its + "}}}type b{maker()fails 5," + k + "{}}");
                    C.fault(11, "type a{maker(){try{try{" + its + "}" + behind + "}" + marked + "}}type b{maker()fails 5," + k + "{}}");
                    C.fault(11, "type a{maker(){try{try{" + its + "}finally{throw 4;}}" + marked + "}}type b{maker()fails 5," + k + "{}}");
                }
                C.fault(11, "type a{maker()fails 1,2,3{throw " + k + ";try{}" + marked + "}}");
                C.fault(11, "type a{block{try{mark f();}" + marked + "}act f(){}}");
            }
        }
    }

    private static int bits(int... numbers) {
        int all = 0;
        for (int k : numbers) {
            all |= 1 << k;
        }
        return all;
    }

    /** What can come out of the maker of a with this BODY. */
    private static void out(String body, int... numbers) {
        MakerStarts x = C.right("type a{maker(p)fails 1,2,3{" + body + "}}type b{maker()fails 3,5{}maker(p)fails 1,6{}}type c{block{if(0<1){throw 6;}}}");
        C.due("fails of " + body, x.fails(0, 1), bits(numbers));
    }

    /** "of throw k: k". */
    private static void outOfThrow() {
        for (int k = 1; k <= 6; k++) {
            out("throw " + k + ";", k);
            out("mark 1;throw " + k + ";mark 2;", k);
        }
        out("");
        out("throw 1;throw 2;throw 3;throw 4;throw 5;throw 6;", 1, 2, 3, 4, 5, 6);
        out("throw 4;throw 4;", 4);
    }

    /** "of new: what that maker tells behind fails". */
    private static void outOfNew() {
        out("new b();", 3, 5);
        out("new b(1);", 1, 6);
        out("new b();new b(1);", 1, 3, 5, 6);
        out("throw 4;new b();", 3, 4, 5);
        out("new b();throw 4;", 3, 4, 5);
        out("new c();");
        out("throw 4;new c();", 4);
        out("new a(1);", 1, 2, 3);
    }

    /** "of a try: what can come out of its BODY but what its catch takes, out of its catch, out of its finally". */
    private static void outOfTry() {
        out("try{throw 4;}catch 4{}");
        out("try{throw 4;throw 5;}catch 4{}", 5);
        out("try{throw 4;}catch 5{}", 4);
        out("try{throw 4;}catch 7{}", 4);
        out("try{throw 4;}catch 4{throw 5;}", 5);
        out("try{throw 4;}catch 4{throw 4;}", 4);
        out("try{}catch 4{throw 5;}", 5);
        out("try{throw 4;}finally{}", 4);
        out("try{throw 4;}catch 4{throw 5;}finally{if(0<1){throw 6;}}", 5, 6);
        out("try{}finally{if(0<1){throw 4;}}", 4);
        out("try{throw 4;}catch 4{}finally{if(0<1){throw 4;}}", 4);
        out("throw 6;try{throw 4;}catch 4{}", 6);
        out("throw 4;try{throw 4;}catch 4{}", 4);
        out("throw 6;try{throw 4;}finally{}", 4, 6);
        out("try{try{throw 1;throw 2;throw 3;}catch 1{}}catch 2{}", 3);
        out("try{new b();}catch 3{}", 5);
        out("try{new b();}catch 5{}", 3);
        out("try{if(0<1){throw 4;}else{throw 5;}}catch 5{throw 6;}", 4, 6);
    }

    /** "if finally can't end well, that of finally alone". */
    private static void outOfFinallyAlone() {
        out("try{throw 4;}finally{throw 5;}", 5);
        out("try{throw 1;}finally{throw 5;}", 5);
        out("try{throw 4;}catch 4{throw 6;}finally{throw 5;}", 5);
        out("try{throw 4;throw 6;}catch 4{}finally{if(0<1){throw 2;}else{throw 5;}}", 2, 5);
        out("throw 4;try{throw 6;}finally{throw 5;}", 4, 5);
        out("try{try{throw 4;}finally{throw 5;}}finally{throw 6;}", 6);
        out("try{throw 4;}finally{try{throw 5;}catch 5{}}", 4);
        out("try{throw 4;}finally{throw 5;mark 1;}throw 6;", 5, 6);
        C.right("type a{act f(){try{throw 1;}finally{return 1;}}}");
        C.right("type a{act f(){try{throw 1;}finally{if(0<1){return 1;}else{return 2;}}}}");
        C.fault(11, "type a{^act f(){try{throw 1;}finally{if(0<1){return 1;}}}}");
    }

    private static void outOfIf() {
        out("if(0<1){throw 4;}", 4);
        out("if(0<1){throw 4;}else{throw 5;}", 4, 5);
        out("if(0<1){}else{throw 5;}", 5);
        out("throw 6;if(0<1){throw 4;}", 4, 6);
        out("throw 6;if(0<1){throw 4;}else{throw 5;}", 4, 5, 6);
        out("if(0<1){throw 4;}else{throw 5;}throw 6;", 4, 5, 6);
        out("if(1<0){throw 4;}else{if(1<0){throw 5;}else{if(1<0){throw 6;}}}", 4, 5, 6);
    }

    /** "Of a maker: of its BODY, what that of this or super tells behind fails, and, without this, .. of BLOCKS of its TYPE (not static)". */
    private static void outOfMakers() {
        MakerStarts x = C.right("type a{block{if(0<1){throw 4;}}block{if(0<1){throw 5;}}static block{if(0<1){throw 6;}}"
                + "maker()fails 1,6{}maker(p)fails 1,3 this();{throw 3;}maker(p,q){}maker(p,q,r)fails 2{throw 2;}}"
                + "type b:a{maker()fails 1{}maker(p)fails 2,1 super();{throw 2;}maker(p,q)super(1,2);{}maker(p,q,r)fails 1,3 super(p);{}}"
                + "type c:b{block{if(0<1){throw 6;}}maker()fails 1,2,3{throw 3;}maker(p)fails 1,2,3 this();{}}");
        C.due("blocks alone, not what it tells", x.fails(0, 0), bits(4, 5));
        C.due("its BODY and what this tells, not the blocks", x.fails(0, 1), bits(1, 3, 6));
        C.due("blocks", x.fails(0, 2), bits(4, 5));
        C.due("blocks and its BODY", x.fails(0, 3), bits(2, 4, 5));
        C.due("what super tells, though none is told", x.fails(1, 0), bits(1, 6));
        C.due("what super tells, and its BODY", x.fails(1, 1), bits(1, 2, 6));
        C.due("a super that tells none", x.fails(1, 2), 0);
        C.due("what the other super tells", x.fails(1, 3), bits(1, 3));
        C.due("what super tells, blocks and its BODY", x.fails(2, 0), bits(1, 3, 6));
        C.due("what this tells", x.fails(2, 1), bits(1, 2, 3));
    }

    /** "of a TYPE without makers: the latter, and what super tells". */
    private static void outOfTypesWithoutMakers() {
        MakerStarts x = C.right("type a{maker()fails 4,6{throw 5;}}type b:a{block{if(0<1){throw 5;}}static block{if(0<1){throw 4;}}}"
                + "type c:b{}type d{block{if(0<1){throw 6;}}}type e:d{}type f{}");
        C.due("a", x.fails(0, 0), bits(5));
        C.due("what super tells, and blocks", x.fails(1, 0), bits(4, 5, 6));
        C.due("of a super without makers nothing is told", x.fails(2, 0), 0);
        C.due("blocks alone", x.fails(3, 0), bits(6));
        C.due("of a super without makers nothing is told", x.fails(4, 0), 0);
        C.due("nothing", x.fails(5, 0), 0);
    }

    /** "(EXPS throw nothing here, and new of a TYPE without makers.)". */
    private static void outOfNothingElse() {
        MakerStarts x = C.right("type a{field x=1/0;field y=f();static field s=1/0;act f(){throw 4;}maker(){mark f();mark 1/0;mark a.s;new b();}}"
                + "type b{block{if(0<1){throw 5;}}static block{if(0<1){throw 6;}}}");
        C.due("EXPS, acts, starts and b throw nothing here", x.fails(0, 0), 0);
        C.due("b", x.fails(1, 0), bits(5));
    }
}
