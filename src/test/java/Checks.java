import java.nio.charset.StandardCharsets;

/** What the tests share: feeding texts, and counting answers that are not as due. */
final class Checks {
    static final String INDEX = "IndexOutOfBoundsException", STATE = "IllegalStateException";

    interface Call {
        int answer();
    }

    interface Ask {
        int of(MakerStarts x);
    }

    private int wrong = 0, asked = 0;

    void due(String what, long got, long want) {
        asked++;
        if (got != want) {
            wrong++;
            System.out.println(what + " answered " + got + ", due is " + want);
        }
    }

    /** The call throws an exception of just this class. */
    void dueThrow(String what, Call call, String want) {
        dueAnswer(what, call, want);
    }

    /** The call answers this number, or throws an exception of just this class. */
    void dueAnswer(String what, Call call, String want) {
        asked++;
        String got = answer(call);
        if (!got.equals(want)) {
            wrong++;
            System.out.println(what + " gave " + got + ", due is " + want);
        }
    }

    /** A new object has to say that the text has this fault; '^' stands ahead of its place. */
    void fault(int number, String marked) {
        int place = marked.indexOf('^');
        String text = marked.substring(0, place) + marked.substring(place + 1);
        MakerStarts x = new MakerStarts();
        feed(x, text);
        due("read of " + marked, x.read(), -20 - number);
        due("place of " + marked, x.place(), place);
    }

    /** A new object has to take the text. */
    MakerStarts right(String text) {
        MakerStarts x = new MakerStarts();
        reads(x, text);
        return x;
    }

    /** The object has to take the text. */
    void reads(MakerStarts x, String text) {
        feed(x, text);
        int types = text.split("type\\s", -1).length - 1;
        due("read of " + text, x.read(), types);
        due("place of " + text, x.place(), MakerStarts.NONE);
    }

    static void feed(MakerStarts x, String text) {
        byte[] bytes = text.getBytes(StandardCharsets.ISO_8859_1);
        for (int i = 0; i < bytes.length; i += 8) {
            int n = Math.min(8, bytes.length - i);
            long w = 0;
            for (int k = 0; k < n; k++) {
                w = w << 8 | bytes[i + k] & 255;
            }
            x.feed(w, n);
        }
    }

    /** All that is MARKED, in its order. */
    void marks(String what, MakerStarts x, int... want) {
        due(what + ": how many marks", x.told(1), want.length);
        for (int i = 0; i < Math.min(want.length, x.told(1)); i++) {
            due(what + ": mark " + i, x.marked(i), want[i]);
        }
        dueThrow(what + ": a mark too many", () -> x.marked(x.told(1)), INDEX);
    }

    /** All that can be asked without changing anything, but for the place of the latest FAULT. */
    static String state(MakerStarts x) {
        StringBuilder b = new StringBuilder();
        for (int what = 0; what <= 4; what++) {
            b.append(" told ").append(x.told(what));
        }
        for (int i = 0; i < x.told(1); i++) {
            b.append(" mark ").append(x.marked(i));
        }
        for (int t = 0; t < x.told(0); t++) {
            for (int what = 0; what <= 4; what++) {
                b.append(" type ").append(x.type(t, what));
            }
            for (int f = 0; f < 8; f++) {
                int type = t;
                int member = f;
                b.append(" field ").append(answer(() -> x.field(type, member)));
                b.append(" held ").append(answer(() -> x.held(type, member)));
            }
            for (int n = 0; n <= 3; n++) {
                b.append(" fails ").append(x.fails(t, n));
            }
        }
        return b.toString();
    }

    private static String answer(Call call) {
        try {
            return "" + call.answer();
        } catch (RuntimeException e) {
            return e.getClass().getSimpleName();
        }
    }

    /** Both are what state() told. */
    void same(String what, String got, String want) {
        asked++;
        if (!got.equals(want)) {
            wrong++;
            System.out.println(what + " left" + got + ", due is" + want);
        }
    }

    static String repeat(String part, int n) {
        return part.repeat(n);
    }

    void end() {
        System.out.println(asked + " answers, " + wrong + " not as due");
        if (wrong != 0) {
            System.exit(1);
        }
    }
}
