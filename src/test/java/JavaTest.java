import java.lang.reflect.Field;
import java.lang.reflect.Method;
import java.util.Random;

/**
 * The published language as a second opinion: random texts are told once more in Java. A text has
 * a FAULT just if javac refuses its other telling; one that is right runs as Java runs it.
 */
public final class JavaTest {
    private static final Checks C = new Checks();
    private static final JavacInMemory JAVAC = new JavacInMemory();
    private static final int TEXTS = 300, CALLS = 12;
    /** What one call and all that is compared behind it asks at the most: 119 MARKS, 32 MEMBERS, and a few more. */
    private static final int DEAREST = 170;

    private static int right = 0, wrong = 0;

    public static void main(String[] args) throws ReflectiveOperationException {
        long first = args.length > 0 ? Long.parseLong(args[0]) : 0;
        long count = args.length > 1 ? Long.parseLong(args[1]) : TEXTS;
        for (long seed = first; seed < first + count; seed++) {
            compare(seed);
        }
        System.out.println(right + " right texts, " + wrong + " wrong ones");
        C.due("enough texts of both sorts", Math.min(right, wrong) >= count / 10 ? 1 : 0, 1);
        C.end();
    }

    private static void compare(long seed) throws ReflectiveOperationException {
        TwoTellings told = new TwoTellings(seed);
        if (told.text.length() > 1600) {
            return;
        }
        MakerStarts x = new MakerStarts();
        Checks.feed(x, told.text);
        int read = x.read();
        if (read == -23) {
            // Java has no limits like those of FAULT 3.
            return;
        }
        boolean takes = JAVAC.compile(told.javaFor(false)) != null;
        C.due("seed " + seed + ": is it right: " + told.text, read < 0 ? 0 : 1, takes ? 1 : 0);
        if (read >= 0 && takes) {
            right++;
            new JavaTest(told, x, seed).run();
        } else {
            wrong++;
        }
    }

    private final TwoTellings told;
    private final MakerStarts x;
    private final Random random;
    private final ClassLoader classes;
    private final Class<?> counts;
    private final String what;
    private int things = 0, seen = 0, asked;

    private JavaTest(TwoTellings told, MakerStarts x, long seed) throws ReflectiveOperationException {
        this.told = told;
        this.x = x;
        this.random = new Random(seed);
        this.classes = JAVAC.compile(told.javaFor(true));
        this.counts = classes.loadClass("P$R");
        this.what = " of seed " + seed + ": " + told.text;
        this.asked = told.text.length() / 8 + 2;
    }

    /** An object has to answer 512 calls. */
    private boolean mayGoOn() {
        return asked + DEAREST <= 512;
    }

    private void due(String name, Checks.Call call, int want) {
        asked++;
        C.dueAnswer(name + what, call, "" + want);
    }

    /** Random calls, and at the end each TYPE is asked for: that tells which are STARTED or ABSENT in Java. */
    private void run() throws ReflectiveOperationException {
        for (int i = 0; i < CALLS && mayGoOn(); i++) {
            TwoTellings.Kind kind = told.kinds.get(random.nextInt(told.kinds.size()));
            int n = random.nextInt(4);
            if (kind.hasMaker(n)) {
                make(kind, n, random.nextInt(7) - 3, random.nextInt(7) - 3, random.nextInt(7) - 3);
            } else if (random.nextInt(3) == 0) {
                start(kind);
            }
        }
        for (TwoTellings.Kind kind : told.kinds) {
            if (mayGoOn()) {
                start(kind);
            }
        }
    }

    private void make(TwoTellings.Kind kind, int n, int a, int b, int c) throws ReflectiveOperationException {
        Method make = classes.loadClass("P").getMethod("make", int.class, int.class, int.class, int.class);
        int due = (int) make.invoke(null, 4 * kind.index + n, a, b, c);
        due("make(" + kind.index + ", " + n + ", " + a + ", " + b + ", " + c + ")", () -> x.make(kind.index, n, a, b, c), due);
        boolean came = (boolean) count("came");
        things += came ? 1 : 0;
        due("told(3)", () -> x.told(3), things);
        for (TwoTellings.Kind each : told.kinds) {
            for (int f = 0; f < each.parts.size(); f++) {
                if (each.parts.get(f).kind == TwoTellings.FIELD) {
                    compareField(each, f, came && kind.isBelow(each));
                }
            }
        }
        compareRest();
    }

    private void start(TwoTellings.Kind kind) throws ReflectiveOperationException {
        Method start = classes.loadClass("P").getMethod("start", String.class);
        int due = (int) start.invoke(null, "P$T_" + kind.name);
        due("start(" + kind.index + ")", () -> x.start(kind.index), due);
        due("type(" + kind.index + ", 3)", () -> x.type(kind.index, 3), due == 0 ? 1 : 2);
        compareRest();
    }

    private Object count(String name) throws ReflectiveOperationException {
        return counts.getField(name).get(null);
    }

    private Field variable(TwoTellings.Kind kind, int f) throws ReflectiveOperationException {
        Field field = classes.loadClass("P$T_" + kind.name).getDeclaredField("m_" + kind.parts.get(f).name);
        field.setAccessible(true);
        return field;
    }

    private void compareField(TwoTellings.Kind kind, int f, boolean has) throws ReflectiveOperationException {
        String call = "field(" + kind.index + ", " + f + ")";
        if (!has) {
            asked++;
            C.dueThrow(call + what, () -> x.field(kind.index, f), Checks.STATE);
            return;
        }
        // If not even the highest of its TYPES came to its own FIELDS, they all are 0.
        Object thing = count("thing");
        due(call, () -> x.field(kind.index, f), thing == null ? 0 : variable(kind, f).getInt(thing));
    }

    private void compareRest() throws ReflectiveOperationException {
        due("told(4)", () -> x.told(4), (int) count("steps"));
        int marks = (int) count("marks");
        due("told(1)", () -> x.told(1), marks);
        for (; seen < marks; seen++) {
            int i = seen;
            due("marked(" + i + ")", () -> x.marked(i), ((int[]) count("mark"))[i]);
        }
        for (TwoTellings.Kind each : told.kinds) {
            compareStatics(each);
        }
    }

    private void compareStatics(TwoTellings.Kind kind) throws ReflectiveOperationException {
        asked++;
        if (x.type(kind.index, 3) != 1) {
            // To look at its STATICS would start it in Java.
            return;
        }
        for (int i = 0; i < kind.parts.size(); i++) {
            int f = i;
            int sort = kind.parts.get(f).kind;
            if (sort == TwoTellings.STATIC || sort == TwoTellings.CONSTANT) {
                due("held(" + kind.index + ", " + f + ")", () -> x.held(kind.index, f), inJava(kind, f));
            }
        }
    }

    private int inJava(TwoTellings.Kind kind, int f) throws ReflectiveOperationException {
        try {
            return variable(kind, f).getInt(null);
        } catch (LinkageError absent) {
            C.due("type(" + kind.index + ", 3), ABSENT in Java," + what, 1, 2);
            return 0;
        }
    }
}
