import java.util.Locale;

/** "Terms": each sentence on tokens that names an edge. */
public final class TokensTest {
    private static final Checks C = new Checks();
    private static final String SIGNS = "{}(),;:.=+-*/%<";
    private static final String[] NO_NAMES = ("type field const static block maker fails this super act mark throw try catch"
            + " finally if else new return").split(" ");

    public static void main(String[] args) {
        everyByteAlone();
        everyByteBetween();
        blanksWhereOneLikes();
        asLongAsCanBe();
        wordsOfEightAtMost();
        numbersOfNineAtMost();
        wordsThatAreNoNames();
        wordsThatAreNearlyNoNames();
        C.end();
    }

    private static boolean beginsToken(int b) {
        return b >= 'a' && b <= 'z' || b >= '0' && b <= '9' || SIGNS.indexOf(b) >= 0;
    }

    /** "BLANKS (10, 32)", "the SIGNS { } ( ) , ; : . = + - * / % <", "1 no token begins". */
    private static void everyByteAlone() {
        for (int b = 0; b < 256; b++) {
            MakerStarts x = new MakerStarts();
            x.feed(b, 1);
            boolean blank = b == 10 || b == 32;
            C.due("byte " + b + " alone", x.read(), blank ? 0 : beginsToken(b) ? -22 : -21);
            C.due("place of byte " + b, x.place(), blank ? MakerStarts.NONE : 0);
        }
    }

    private static void everyByteBetween() {
        for (int b = 0; b < 256; b++) {
            MakerStarts x = new MakerStarts();
            Checks.feed(x, "type a{" + (char) b + "}");
            boolean blank = b == 10 || b == 32;
            C.due("byte " + b + " between", x.read(), blank ? 1 : beginsToken(b) ? -22 : -21);
            C.due("place of byte " + b + " between", x.place(), blank ? MakerStarts.NONE : b == '}' ? 8 : 7);
        }
    }

    /** "with BLANKS (10, 32) between where one likes". */
    private static void blanksWhereOneLikes() {
        C.right("\n\n  type  \n a \n { }");
        C.right("type a{static field s=1+2*3;maker(p)fails 4{p=-s;if(p<a.s){}else{throw 4;}}}");
        C.right(" type a { static\nfield s = 1 + 2 * 3 ; maker ( p ) fails 4 { p = - s ; if ( p < a . s ) { } else { throw 4 ; } } } ");
        C.fault(2, "^ty pe a{}");
        C.fault(2, "type a ^b{}");
        C.fault(2, "type a{field x=1 ^2;}");
        C.fault(2, "type a{^fi eld x;}");
        C.fault(2, "  \n ^x");
    }

    /** "TOKENS, as long as can be". */
    private static void asLongAsCanBe() {
        C.fault(2, "^typea{}");
        C.fault(2, "^type1 a{}");
        C.fault(2, "type a{^fieldx;}");
        C.fault(2, "type a{block{mark1^;}}");
        C.fault(2, "type a{block{mark 1^a;}}");
        C.fault(2, "type a{block{if(1<^=2){}}}");
        C.right("type a{block{mark 1--1;mark 12;mark a1b.k;}}type a1b{const k=1;}");
        C.right("type a{field a1;field a11;field a;block{mark a1+a11+a;}}");
        MakerStarts x = C.right("type a{block{mark 1--1;mark 12;}}");
        x.make(0, 0, 0, 0, 0);
        C.marks("signs are tokens by themselves, digits are not", x, 2, 12);
    }

    /** "WORDS (small letters, then small letters and digits; 8 at most)", "1 .. or it is too long". */
    private static void wordsOfEightAtMost() {
        for (int n = 1; n <= 20; n++) {
            String letters = Checks.repeat("abcdefgh", 3).substring(0, n);
            String digits = "z" + Checks.repeat("123456789", 3).substring(0, n - 1);
            if (n <= 8) {
                C.right("type " + letters + "{field " + digits + ";}");
            } else {
                C.fault(1, "type ^" + letters + "{}");
                C.fault(1, "type a{field ^" + digits + ";}");
            }
        }
        C.fault(1, "type a{field abcdefgh;field ^abcdefghi;}");
        C.fault(1, "^typetypetype a{}");
        C.fault(1, "^aaaaatype a{}");
        C.fault(1, "type a{field ^" + Checks.repeat("w", 1500) + ";}");
        C.fault(1, "^" + Checks.repeat("z", 1600));
        C.fault(1, "type a{field x ^abcdefghi}");
        // eight letters that differ in the first and in the last one alone
        MakerStarts x = C.right("type a{const abcdefgh=1;const bbcdefgh=2;const abcdefgi=3;}");
        C.due("first", x.held(0, 0), 1);
        C.due("second", x.held(0, 1), 2);
        C.due("third", x.held(0, 2), 3);
        C.fault(4, "type a{const abcdefgh=1;const ^abcdefgh=2;}");
    }

    /** "NUMBERS (digits, 9 at most)". */
    private static void numbersOfNineAtMost() {
        for (int n = 1; n <= 25; n++) {
            String nines = Checks.repeat("9", n);
            String zeros = Checks.repeat("0", n);
            if (n <= 9) {
                MakerStarts x = C.right("type a{const k=" + nines + ";const l=" + zeros + ";}");
                C.due(nines, x.held(0, 0), Integer.parseInt(nines));
                C.due(zeros, x.held(0, 1), 0);
            } else {
                C.fault(1, "type a{const k=^" + nines + ";}");
                C.fault(1, "type a{const k=^" + zeros + ";}");
            }
        }
        C.fault(1, "type a{const k=^" + Checks.repeat("1", 1584) + "}");
        C.fault(1, "type a{field ^1234567890;}");
        C.due("zeros ahead", C.right("type a{const k=000000012;}").held(0, 0), 12);
    }

    /** "These WORDS are no NAMES". */
    private static void wordsThatAreNoNames() {
        C.due("as many as the document has", NO_NAMES.length, 19);
        for (String w : NO_NAMES) {
            C.fault(2, "type ^" + w + "{}");
            C.fault(2, "type a{}type b:^" + w + "{}");
            C.fault(2, "type a{const ^" + w + "=1;}");
            C.fault(2, "type a{field ^" + w + ";}");
            C.fault(2, "type a{static field ^" + w + ";}");
            C.fault(2, "type a{maker(^" + w + "){}}");
            C.fault(2, "type a{maker(p,^" + w + "){}}");
            C.fault(2, "type a{act ^" + w + "(){}}");
            C.fault(2, "type a{field x=^" + w + ";}");
            C.fault(2, "type a{field x=a.^" + w + ";}");
            C.fault(2, "type a{block{a.^" + w + "=1;}}");
            C.fault(2, "type a{block{new ^" + w + "();}}");
            C.fault(2, "type a{block{throw ^" + w + ";}}");
            C.fault(1, "type a{field ^" + w.toUpperCase(Locale.ROOT) + ";}");
        }
    }

    private static void wordsThatAreNearlyNoNames() {
        for (String w : NO_NAMES) {
            for (String name : new String[] {w + "x", w + "0", "x" + w, w.substring(0, w.length() - 1)}) {
                MakerStarts x = C.right("type\n" + name + "{const " + name + "=5;maker(){mark " + name + ";mark " + name + "." + name + ";}}");
                x.make(0, 0, 0, 0, 0);
                C.marks(name + " is a NAME", x, 5, 5);
            }
        }
    }
}
