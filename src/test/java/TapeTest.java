/** Promises 1 (a new object) and 2 (feed), and what read() does to the tape. */
public final class TapeTest {
    private static final Checks C = new Checks();

    public static void main(String[] args) {
        newObject();
        order();
        refusals();
        full();
        emptied();
        C.end();
    }

    private static void newObject() {
        MakerStarts x = new MakerStarts();
        for (int what = 0; what <= 4; what++) {
            C.due("told(" + what + ") of a new one", x.told(what), 0);
        }
        C.due("place() of a new one", x.place(), MakerStarts.NONE);
        C.due("type(0, 0) of a new one", x.type(0, 0), MakerStarts.NONE);
        C.due("make of a new one", x.make(0, 0, 0, 0, 0), MakerStarts.NONE);
        C.due("start of a new one", x.start(0), MakerStarts.NONE);
        C.due("fails of a new one", x.fails(0, 0), MakerStarts.NONE);
        C.dueThrow("marked(0) of a new one", () -> x.marked(0), Checks.INDEX);
        C.dueThrow("held(0, 0) of a new one", () -> x.held(0, 0), Checks.INDEX);
        C.dueThrow("field(0, 0) of a new one", () -> x.field(0, 0), Checks.STATE);
        C.due("an empty tape is a text", x.read(), 0);
        C.due("an empty text has no fault", x.place(), MakerStarts.NONE);
    }

    private static void order() {
        MakerStarts x = new MakerStarts();
        C.due("feed of type, lowest bytes alone", x.feed(0x7b7b7b7b74797065L, 4), 4);
        C.due("feed of a blank and a", x.feed(0x2061L, 2), 6);
        C.due("feed of { and }", x.feed(0x7b7dL, 2), 8);
        C.due("bytes on the tape", x.told(2), 8);
        C.due("the highest byte came first", x.read(), 1);

        MakerStarts y = new MakerStarts();
        C.due("feed of eight bytes", y.feed(0x7479706520617b7dL, 8), 8);
        C.due("eight bytes in their order", y.read(), 1);

        MakerStarts z = new MakerStarts();
        C.due("feed of bytes below 0", z.feed(-1L, 8), 8);
        C.due("no token begins with 255", z.read(), -21);
    }

    private static void refusals() {
        MakerStarts x = new MakerStarts();
        C.due("n = 0", x.feed(1, 0), MakerStarts.BAD);
        C.due("n = 9", x.feed(1, 9), MakerStarts.BAD);
        C.due("n = -1", x.feed(1, -1), MakerStarts.BAD);
        C.due("n as low as can be", x.feed(1, Integer.MIN_VALUE), MakerStarts.BAD);
        C.due("n as high as can be", x.feed(1, Integer.MAX_VALUE), MakerStarts.BAD);
        C.due("nothing came", x.told(2), 0);
    }

    private static void full() {
        MakerStarts x = new MakerStarts();
        for (int i = 1; i <= 199; i++) {
            C.due("feed " + i, x.feed(0x2020202020202020L, 8), 8 * i);
        }
        C.due("up to 1599", x.feed(0x20202020202020L, 7), 1599);
        C.due("two are too many", x.feed(0x2020L, 2), MakerStarts.FULL);
        C.due("BAD comes ahead of FULL", x.feed(0, 9), MakerStarts.BAD);
        C.due("what was refused did not come", x.told(2), 1599);
        C.due("one more fits", x.feed(0x20L, 1), 1600);
        C.due("none fits then", x.feed(0x20L, 1), MakerStarts.FULL);
        C.due("blanks alone are a text", x.read(), 0);
        C.due("the tape is empty then", x.feed(0x20L, 1), 1);
    }

    private static void emptied() {
        MakerStarts x = new MakerStarts();
        Checks.feed(x, "type a{} @");
        C.due("a wrong text", x.read(), -21);
        C.due("a wrong text empties the tape", x.told(2), 0);
        Checks.feed(x, "type a{}");
        C.due("a right text", x.read(), 1);
        C.due("a right text empties the tape", x.told(2), 0);
        C.due("a whole tape of one token each byte", whole(), -22);
    }

    private static int whole() {
        MakerStarts x = new MakerStarts();
        Checks.feed(x, Checks.repeat("{", 1600));
        return x.read();
    }
}
