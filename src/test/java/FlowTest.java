/** Promise 12 (fails), and of promises 3 and 4 the FAULTS 9 and 11. */
public final class FlowTest {
    private static final Checks C = new Checks();

    public static void main(String[] args) {
        numbers();
        endingWell();
        checkedOnes();
        checkedOfMakers();
        checkedCatches();
        whatComesOut();
        refusals();
        C.end();
    }

    private static void numbers() {
        C.fault(9, "type a{act f(){throw ^0;}}");
        C.fault(9, "type a{act f(){throw ^7;}}");
        C.fault(9, "type a{maker()fails ^0{}}");
        C.fault(9, "type a{maker()fails 1,6,^7{}}");
        C.fault(9, "type a{act f(){try{}catch ^0{}}}");
        C.fault(9, "type a{act f(){try{}catch ^10{}}}");
        C.fault(9, "type a{act f(){throw ^999999999;}}");
        C.right("type a{act f(){throw 4;}act g(){throw 6;}act h(){try{}catch 9{}try{}catch 4{}}maker()fails 1,6{}}");
    }

    private static void endingWell() {
        C.fault(11, "type a{^block{throw 4;}}");
        C.fault(11, "type a{static ^block{throw 4;}}");
        C.fault(11, "type a{^block{throw 4;mark 1;}}");
        C.fault(11, "type a{^block{if(0<1){throw 4;}else{throw 5;}}}");
        C.right("type a{block{if(0<1){throw 4;}else{}}}");
        C.right("type a{block{if(0<1){}else{throw 4;}}}");
        C.right("type a{block{if(0<1){throw 4;}}}");
        C.fault(11, "type a{^block{try{throw 4;}finally{}}}");
        C.fault(11, "type a{^block{try{throw 4;}catch 4{throw 5;}}}");
        C.right("type a{block{try{throw 4;}catch 5{}}}");
        C.right("type a{block{try{}catch 4{throw 5;}}}");
        C.fault(11, "type a{^block{try{}finally{throw 4;}}}");
        C.fault(11, "type a{^block{try{throw 4;}catch 4{}finally{if(0<1){throw 4;}else{throw 5;}}}}");
        C.right("type a{block{try{throw 4;}catch 4{}finally{}}}");
        C.right("type a{maker(){throw 4;}act f(){throw 4;}}");
    }

    private static void checkedOnes() {
        for (int k = 1; k <= 3; k++) {
            C.fault(11, "type a{^static block{if(0<1){throw " + k + ";}}}");
            C.fault(11, "type a{^act f(){throw " + k + ";}}");
            C.fault(11, "type a{^maker(){throw " + k + ";}}");
            C.fault(11, "type ^a{block{if(0<1){throw " + k + ";}}}");
            C.right("type a{maker()fails " + k + "{throw " + k + ";}}");
        }
        C.fault(11, "type a{^static block{throw 1;}}");
        C.fault(11, "type a{^act f(){new b();}}type b{maker()fails 2{}}");
        C.right("type a{act f(){new b();}}type b{maker()fails 4,5,6{}}");
        C.right("type a{act f(){try{throw 1;}finally{return 2;}}}");
        C.right("type a{act f(){try{throw 1;}finally{if(0<1){return 2;}else{throw 4;}}}}");
        C.fault(11, "type a{^act f(){try{throw 1;}finally{if(0<1){return 2;}}}}");
        C.right("type a{static block{try{throw 1;}catch 1{}}act f(){try{throw 2;}catch 2{}}}");
    }

    private static void checkedOfMakers() {
        C.fault(11, "type a{^maker()fails 1{throw 2;}}");
        C.fault(11, "type a{block{if(0<1){throw 1;}}^maker(){}}");
        C.fault(11, "type a{block{if(0<1){throw 1;}}maker()fails 1{}^maker(p){}}");
        C.fault(11, "type a{maker()fails 1{}}type b:a{^maker(){}}");
        C.fault(11, "type a{maker(p)fails 1{}}type b:a{^maker()super(1);{}}");
        C.fault(11, "type a{maker()fails 1{}}type ^b:a{}");
        C.fault(11, "type a{maker()fails 1{}^maker(p)this();{}}");
        C.right("type a{block{if(0<1){throw 1;}}maker()fails 1{}maker(p)fails 1 this();{}}");
        C.right("type a{maker()fails 4{}}type b:a{}");
        C.right("type a{maker()fails 1{}}type b:a{maker()fails 1{}}type c{block{try{new b();}catch 1{}}}");
    }

    private static void checkedCatches() {
        C.fault(11, "type a{block{try{}catch ^1{}}}");
        C.fault(11, "type a{maker()fails 2{try{throw 2;}catch ^3{}}}");
        C.fault(11, "type a{block{try{try{throw 1;}catch 1{}}catch ^1{}}}");
        C.fault(11, "type a{block{try{try{throw 1;}finally{throw 4;}}catch ^1{}}}");
        C.fault(11, "type a{block{try{new a();}catch ^1{}}}");
        C.right("type a{block{try{try{throw 1;}finally{}}catch 1{}}}");
        C.right("type a{block{try{if(0<1){}else{throw 1;}}catch 1{}}}");
        C.right("type a{block{try{throw 4;throw 1;}catch 1{}}}");
        C.right("type a{block{try{}catch 4{}try{}catch 7{}try{}catch 9{}}}");
    }

    private static void out(int want, String body) {
        String text = "type a{maker()fails 1,2,3{" + body + "}}type b{maker(p)fails 3,5{}}type c{}";
        C.due("fails of " + body, C.right(text).fails(0, 0), want);
    }

    private static void whatComesOut() {
        out(0, "");
        out(1 << 1, "throw 1;");
        out(1 << 6, "throw 6;");
        out(1 << 4 | 1 << 5, "throw 4;throw 5;");
        out(1 << 3 | 1 << 5, "new b(1);");
        out(0, "new c();");
        out(1 << 2 | 1 << 4, "if(0<1){throw 2;}else{throw 4;}");
        out(1 << 4, "try{throw 2;throw 4;}catch 2{}");
        out(1 << 4 | 1 << 5, "try{throw 2;throw 4;}catch 2{throw 5;}");
        out(1 << 2, "try{throw 2;}catch 2{throw 2;}");
        out(1 << 4 | 1 << 5, "try{throw 4;}finally{if(0<1){throw 5;}}");
        out(1 << 5, "try{throw 4;throw 1;}finally{throw 5;}");
        out(1 << 4, "try{throw 4;}catch 7{}");

        MakerStarts x = C.right("type a{block{if(0<1){throw 4;}}static block{if(1<0){throw 5;}}maker(){throw 6;}"
                + "maker(p)fails 5 this();{}maker(p,q)fails 1{}}"
                + "type b:a{block{if(0<1){throw 2;}}maker()fails 1,2 super(1,2);{}}"
                + "type c:a{block{if(0<1){throw 6;}}}");
        C.due("body and block", x.fails(0, 0), 1 << 4 | 1 << 6);
        C.due("with this: what that tells, not what can come out of it", x.fails(0, 1), 0);
        C.due("without this: blocks, not what is told", x.fails(0, 2), 1 << 4);
        C.due("what super tells, and blocks", x.fails(1, 0), 1 << 1 | 1 << 2);
        C.due("of a type without makers", x.fails(2, 0), 1 << 6);
    }

    private static void refusals() {
        MakerStarts x = C.right("type a{maker(p){}}type b{}");
        C.due("no such type", x.fails(2, 0), MakerStarts.NONE);
        C.due("no such type", x.fails(-1, 0), MakerStarts.NONE);
        C.due("no such maker", x.fails(0, 0), MakerStarts.NONE);
        C.due("one such maker", x.fails(0, 1), 0);
        C.due("a type without makers has one without parameters", x.fails(1, 0), 0);
        C.due("and no other", x.fails(1, 1), MakerStarts.NONE);
        C.due("n = 4", x.fails(0, 4), MakerStarts.NONE);
        C.due("n = -1", x.fails(0, -1), MakerStarts.NONE);
        C.due("both as high as can be", x.fails(Integer.MAX_VALUE, Integer.MAX_VALUE), MakerStarts.NONE);
        C.due("both as low as can be", x.fails(Integer.MIN_VALUE, Integer.MIN_VALUE), MakerStarts.NONE);
    }
}
