import java.util.ArrayList;
import java.util.Arrays;

/**
 * Makers and starts: a text tells TYPES with fields, blocks and makers; it is judged, and then
 * THINGS are made as the text orders it.
 *
 * <p>A text goes through Tokens, Reader and Bodies (FAULTS 1 to 3, and those that are seen while
 * reading), Judge (what NAMES mean) and Flow (what can come out). What is right is code in one row
 * of numbers, which Machine runs without any recursion: its frames stand in a row of their own.
 */
public final class MakerStarts {
    public static final int NONE = -1, BAD = -2, FULL = -4, STATE = -5;

    private static final int TAPE = 1600;
    private static final int TYPES = 8, MEMBERS = 8, PARAMETERS = 3, STATEMENTS = 80, NESTED = 8;
    private static final int SLOTS = TYPES * MEMBERS;
    private static final int MAKERS = PARAMETERS + 1;
    private static final int MARKS = 200, STEPS = 120, CALLS = 24;

    /** Two numbers for each byte at the most, and 136 for the orders of each TYPE. */
    private static final int CODE = 2 * TAPE + 136 * TYPES;
    private static final int SHAPE = 3 * (7 * STATEMENTS + 2 * SLOTS);
    private static final int STACK = 1200;
    private static final int FRAMES = 1 + CALLS + TYPES;
    /** Far above what 120 STEPS over 1600 bytes can take. */
    private static final int TURNS = 1000000;

    // Kinds of tokens: a SIGN's is its own byte, a WORD's that is no NAME is KEY and its place in KEYS.
    private static final int END = 0, WRONG = 1, NAME = 2, NUMBER = 3, KEY = 256;
    private static final String SIGNS = "{}(),;:.=+-*/%<";
    private static final String KEYS =
            "type field const static block maker fails this super act mark throw try catch finally if else new return ";
    private static final int KEY_COUNT = 19;
    private static final int KEY_TYPE = KEY, KEY_FIELD = KEY + 1, KEY_CONST = KEY + 2, KEY_STATIC = KEY + 3;
    private static final int KEY_BLOCK = KEY + 4, KEY_MAKER = KEY + 5, KEY_FAILS = KEY + 6, KEY_THIS = KEY + 7;
    private static final int KEY_SUPER = KEY + 8, KEY_ACT = KEY + 9, KEY_MARK = KEY + 10, KEY_THROW = KEY + 11;
    private static final int KEY_TRY = KEY + 12, KEY_CATCH = KEY + 13, KEY_FINALLY = KEY + 14, KEY_IF = KEY + 15;
    private static final int KEY_ELSE = KEY + 16, KEY_NEW = KEY + 17, KEY_RETURN = KEY + 18;

    // Kinds of MEMBERS, as bits, so that one search can ask for several.
    private static final int CONSTANT = 1, FIELD = 2, STATIC = 4, BLOCK = 8, MAKER = 16, ACT = 32;

    // Kinds of uses of a NAME.
    private static final int ALONE = 0, DOTTED = 1, CALLED = 2, NEWED = 3;

    // What a BODY's shape tells to Flow.
    private static final int OPENS = 1, THROWS = 2, RETURNS = 3, NEWS = 4, BRANCHES = 5, FORKS = 6;
    private static final int CATCHES = 7, CAUGHT = 8, LASTLY = 9, TRIED = 10, CLOSED = 11;

    // What can be THROWN beside the NUMBERS of the text, and the answer of one that is SPENT.
    private static final int DIVIDED = 7, UNSTARTED = 8, GONE = 9, DEEP = 11, SPENT = 12;
    private static final int CHECKED = 0xE, NUMBERED = 0x7E;

    // Codes of one number, or with numbers behind them.
    private static final int OP_PUSH = 1, OP_ADD = 2, OP_SUBTRACT = 3, OP_MULTIPLY = 4, OP_DIVIDE = 5;
    private static final int OP_REST = 6, OP_NEGATE = 7;
    private static final int OP_PARAMETER = 8, OP_FIELD = 9, OP_STATIC = 10, OP_CONSTANT = 11;
    private static final int OP_SET_PARAMETER = 12, OP_SET_FIELD = 13, OP_SET_STATIC = 14;
    private static final int OP_MARK = 15, OP_STEP = 16, OP_THROW = 17, OP_IF = 18, OP_SKIP = 19;
    private static final int OP_TRY = 20, OP_LEAVE = 21, OP_FINISH = 22, OP_RETURN = 23;
    private static final int OP_ACT = 24, OP_NEW = 25, OP_MAKER = 26, OP_ASK = 27;
    private static final int OP_OWN = 28, OP_RUN = 29, OP_BACK = 30, OP_DONE = 31;
    // Where the numbers behind OP_TRY stand.
    private static final int TRY_NUMBER = 1, TRY_CATCH = 2, TRY_FINALLY = 3, TRY_END = 4;

    // States of a TYPE; the first three are answers of type().
    private static final int UNTOUCHED = 0, STARTED = 1, ABSENT = 2, UNDER_WAY = 3;

    // Kinds of frames; phases of a try; what waits for the end of a finally.
    private static final int TOP = 0, STARTING = 1, CALLING = 2;
    private static final int IN_BODY = 0, IN_CATCH = 1, IN_FINALLY = 2;
    private static final int NOTHING = 0, A_THROW = 1, A_RETURN = 2;

    private final byte[] tape = new byte[TAPE];
    private int bytes = 0;
    private int faultPlace = NONE;
    private Text text = new Text();
    private Text spare = new Text();
    private final Reader reader = new Reader();
    private final Flow flow = new Flow();
    private final Machine machine = new Machine(text);

    public MakerStarts() {
    }

    public int feed(long w, int n) {
        if (n < 1 || n > 8) {
            return BAD;
        }
        if (bytes + n > TAPE) {
            return FULL;
        }
        for (int i = n - 1; i >= 0; i--) {
            tape[bytes] = (byte) (w >>> (8 * i));
            bytes++;
        }
        return bytes;
    }

    public int read() {
        Text next = spare;
        next.clear();
        if (reader.reads(tape, bytes, next)) {
            Judge.judge(next);
            flow.judge(next);
        }
        bytes = 0;
        faultPlace = next.faultPlace;
        if (next.fault != 0) {
            return -20 - next.fault;
        }
        spare = text;
        text = next;
        next.link();
        next.order();
        machine.begin(next);
        return next.count;
    }

    public int place() {
        return faultPlace;
    }

    public int told(int what) {
        switch (what) {
            case 0:
                return text.count;
            case 1:
                return machine.markCount;
            case 2:
                return bytes;
            case 3:
                return machine.made;
            case 4:
                return machine.steps;
            default:
                return BAD;
        }
    }

    public int type(int t, int what) {
        Type one = text.typeAt(t);
        if (one == null) {
            return NONE;
        }
        switch (what) {
            case 0:
                return one.parent == null ? NONE : one.parent.index;
            case 1:
                return one.count;
            case 2:
                return one.makerCount;
            case 3:
                return machine.stateOf(one.index);
            case 4:
                return one.fieldCount;
            default:
                return BAD;
        }
    }

    public int make(int t, int n, int a, int b, int c) {
        Type one = text.typeAt(t);
        if (one == null) {
            return NONE;
        }
        if (n < 0 || n > PARAMETERS) {
            return BAD;
        }
        Member maker = one.maker(n);
        if (maker == null) {
            return NONE;
        }
        return machine.build(maker, a, b, c);
    }

    public int start(int t) {
        Type one = text.typeAt(t);
        return one == null ? NONE : machine.ask(one);
    }

    public int marked(int i) throws IndexOutOfBoundsException {
        if (i < 0 || i >= machine.markCount || i >= MARKS) {
            throw new IndexOutOfBoundsException("no such mark");
        }
        return machine.marks[i];
    }

    public int field(int t, int f) throws IllegalStateException, IndexOutOfBoundsException {
        Type own = text.typeAt(machine.latest());
        if (own == null) {
            throw new IllegalStateException("there is no thing");
        }
        Type one = text.typeAt(t);
        if (one == null) {
            throw new IndexOutOfBoundsException("no such type");
        }
        if (!own.isBelow(one)) {
            throw new IllegalStateException("the thing is not below this type");
        }
        Member member = one.memberAt(f);
        if (member == null || member.kind != FIELD) {
            throw new IndexOutOfBoundsException("no such field");
        }
        return machine.latestField(member.slot());
    }

    public int held(int t, int f) throws IndexOutOfBoundsException {
        Type one = text.typeAt(t);
        Member member = one == null ? null : one.memberAt(f);
        if (member == null || (member.kind & (STATIC | CONSTANT)) == 0) {
            throw new IndexOutOfBoundsException("no such static or constant");
        }
        return machine.valueAt(member.slot());
    }

    public int fails(int t, int n) {
        Type one = text.typeAt(t);
        Member maker = one == null ? null : one.maker(n);
        return maker == null ? NONE : maker.comes & NUMBERED;
    }

    /** The tape cut into tokens, and how far they have been taken; after a fault none can be taken. */
    private static final class Tokens {
        private final int[] kinds = new int[TAPE + 1];
        private final int[] places = new int[TAPE + 1];
        /** A NUMBER's value, or a WORD's letters: eight fit into one long. */
        private final long[] words = new long[TAPE + 1];
        private final long[] keys = new long[KEY_COUNT];
        private int count, length, at;
        int fault, faultPlace;

        Tokens() {
            int key = 0;
            long word = 0;
            for (int i = 0; i < KEYS.length(); i++) {
                char c = KEYS.charAt(i);
                if (c != ' ') {
                    word = word << 8 | c;
                } else if (key < KEY_COUNT) {
                    keys[key] = word;
                    key++;
                    word = 0;
                }
            }
        }

        void scan(byte[] tape, int size) {
            count = 0;
            length = 0;
            at = 0;
            fault = 0;
            faultPlace = NONE;
            for (int p = 0; p < size && p < tape.length && count < TAPE; p++) {
                int c = tape[p] & 255;
                if (goesOn(c)) {
                    lengthen(c);
                } else {
                    length = 0;
                    if (c != 10 && c != 32) {
                        open(c, p);
                    }
                }
            }
            kinds[count] = END;
            places[count] = size;
            findKeys();
        }

        /** Does the byte belong to the WORD or NUMBER right ahead of it? */
        private boolean goesOn(int c) {
            return length > 0 && count > 0 && (isDigit(c) || kinds[count - 1] == NAME && isLetter(c));
        }

        private void lengthen(int c) {
            int last = count - 1;
            if (last < 0) {
                return;
            }
            length++;
            if (kinds[last] == NUMBER) {
                words[last] = words[last] * 10 + (c - '0');
            } else {
                words[last] = words[last] << 8 | c;
            }
            if (length > (kinds[last] == NUMBER ? 9 : 8)) {
                kinds[last] = WRONG;
            }
        }

        private void open(int c, int p) {
            boolean digit = isDigit(c);
            boolean letter = isLetter(c);
            if (digit || letter) {
                kinds[count] = digit ? NUMBER : NAME;
                words[count] = digit ? c - '0' : c;
                length = 1;
            } else {
                kinds[count] = SIGNS.indexOf((char) c) >= 0 ? c : WRONG;
                words[count] = 0;
            }
            places[count] = p;
            count++;
        }

        private void findKeys() {
            for (int i = 0; i < count; i++) {
                for (int k = 0; k < KEY_COUNT && kinds[i] == NAME; k++) {
                    if (words[i] == keys[k]) {
                        kinds[i] = KEY + k;
                    }
                }
            }
        }

        private static boolean isDigit(int c) {
            return c >= '0' && c <= '9';
        }

        private static boolean isLetter(int c) {
            return c >= 'a' && c <= 'z';
        }

        boolean is(int kind) {
            return fault == 0 && kinds[at] == kind;
        }

        /** Takes the token if it is of this kind. */
        boolean take(int kind) {
            if (fault != 0 || kinds[at] != kind) {
                return false;
            }
            if (at < count) {
                at++;
            }
            return true;
        }

        void need(int kind) {
            if (fault == 0 && kinds[at] == kind && at < count) {
                at++;
            } else {
                fail(2);
            }
        }

        /** Takes a NAME or a NUMBER; its letters or its value. */
        long needWord(int kind) {
            if (fault == 0 && kinds[at] == kind && at < count) {
                at++;
                return words[at - 1];
            }
            fail(2);
            return 0;
        }

        /** The kind of the token that is next; END behind a fault. */
        int kind() {
            return fault == 0 ? kinds[at] : END;
        }

        /** The place of the token that is next. */
        int spot() {
            return places[at];
        }

        void fail(int number) {
            if (fault == 0) {
                fault = kinds[at] == WRONG ? 1 : number;
                faultPlace = places[at];
            }
        }
    }

    /** One text: its TYPES, the uses of NAMES in it, its code, the shape of its BODIES, its FAULT. */
    private static final class Text {
        private final Type[] types = new Type[TYPES];
        int count;
        final ArrayList<Use> uses = new ArrayList<>();
        private final int[] code = new int[CODE];
        int size;
        private final int[] shape = new int[SHAPE];
        int shapes;
        int fault, faultPlace;

        void clear() {
            for (int i = 0; i < TYPES; i++) {
                types[i] = null;
            }
            count = 0;
            uses.clear();
            size = 0;
            shapes = 0;
            fault = 0;
            faultPlace = NONE;
        }

        /** Keeps the FAULT if it is the first by its place, of one place the least. */
        void note(int number, int place) {
            if (fault == 0 || place < faultPlace || place == faultPlace && number < fault) {
                fault = number;
                faultPlace = place;
            }
        }

        Type typeAt(int t) {
            return t >= 0 && t < count && t < TYPES ? types[t] : null;
        }

        Type typeNamed(long name) {
            for (int i = 0; i < count && i < TYPES; i++) {
                if (types[i] != null && types[i].name == name) {
                    return types[i];
                }
            }
            return null;
        }

        void add(Type one) {
            if (count < TYPES) {
                types[count] = one;
                count++;
            }
        }

        Use useAt(int i) {
            return i >= 0 && i < uses.size() ? uses.get(i) : null;
        }

        Member memberAt(int slot) {
            Type one = slot < 0 ? null : typeAt(slot / MEMBERS);
            return one == null ? null : one.memberAt(slot % MEMBERS);
        }

        Member makerAt(int number) {
            Type one = number < 0 ? null : typeAt(number / MAKERS);
            return one == null ? null : one.maker(number % MAKERS);
        }

        int codeAt(int i) {
            return i >= 0 && i < size && i < CODE ? code[i] : OP_DONE;
        }

        void put(int number) {
            if (size < CODE) {
                code[size] = number;
                size++;
            }
        }

        void put(int op, int behind) {
            put(op);
            put(behind);
        }

        void patch(int i, int number) {
            if (i >= 0 && i < size && i < CODE) {
                code[i] = number;
            }
        }

        /** One event of a BODY's shape: always three numbers. */
        void form(int event, int number, int place) {
            if (shapes + 2 < SHAPE) {
                shape[shapes] = event;
                shape[shapes + 1] = number;
                shape[shapes + 2] = place;
                shapes += 3;
            }
        }

        int shapeAt(int i) {
            return i >= 0 && i < shapes && i < SHAPE ? shape[i] : CLOSED;
        }

        /** Writes into the code what each NAME means. */
        void link() {
            for (int i = 0; i < uses.size(); i++) {
                Use use = uses.get(i);
                patch(use.at, use.op());
                patch(use.at + 1, use.operand());
            }
        }

        /** Writes the orders behind the code: what a TYPE's start and each of its makers do, one after the other. */
        void order() {
            for (int i = 0; i < count; i++) {
                Type one = typeAt(i);
                if (one == null) {
                    return;
                }
                one.orders = size;
                if (one.parent != null) {
                    put(OP_ASK, one.parent.index);
                }
                put(OP_OWN);
                orderMembers(one, true);
                put(OP_DONE);
                one.entry = size;
                put(OP_ASK, i);
                put(OP_DONE);
                for (int n = 0; n < MAKERS; n++) {
                    orderMaker(one, one.maker(n));
                }
            }
        }

        private void orderMembers(Type one, boolean still) {
            for (int i = 0; i < one.count; i++) {
                Member member = one.memberAt(i);
                if (member != null && member.still == still && member.isInitial() && member.code != NONE) {
                    put(OP_RUN, member.code);
                }
            }
        }

        private void orderMaker(Type one, Member maker) {
            if (maker == null) {
                return;
            }
            maker.entry = size;
            put(OP_STEP);
            put(OP_NEW, maker.number());
            put(OP_DONE);
            maker.orders = size;
            if (maker.head != NONE) {
                put(OP_RUN, maker.head);
            }
            if (maker.target != null) {
                put(OP_MAKER, maker.target.number());
            }
            if (maker.callKind != KEY_THIS) {
                orderMembers(one, false);
            }
            if (maker.code != NONE) {
                put(OP_RUN, maker.code);
            }
            put(OP_DONE);
        }
    }

    private static final class Type {
        final int index;
        long name;
        int place;
        Type parent = null;
        private final Member[] members = new Member[MEMBERS];
        int count = 0;
        /** By how many PARAMETERS they have; a TYPE that tells none gets one without any. */
        private final Member[] makers = new Member[MAKERS];
        int makerCount = 0, fieldCount = 0;
        /** Where the code of its start stands, and that of one who asks for it. */
        int orders = 0, entry = 0;

        Type(int index) {
            this.index = index;
        }

        void add(Member member) {
            if (count < MEMBERS) {
                members[count] = member;
                count++;
            }
        }

        Member memberAt(int f) {
            return f >= 0 && f < count && f < MEMBERS ? members[f] : null;
        }

        Member maker(int n) {
            return n >= 0 && n < MAKERS ? makers[n] : null;
        }

        void setMaker(int n, Member member) {
            if (n >= 0 && n < MAKERS) {
                makers[n] = member;
            }
        }

        /** Of this TYPE alone: the first MEMBER of the name and of one of the kinds. */
        Member own(long wanted, int kinds) {
            for (int i = 0; i < count && i < MEMBERS; i++) {
                Member member = members[i];
                if (member != null && (member.kind & kinds) != 0 && member.name == wanted) {
                    return member;
                }
            }
            return null;
        }

        /** Of this TYPE or the next one above that has one. */
        Member find(long wanted, int kinds) {
            for (Type one = this; one != null; one = one.parent) {
                Member member = one.own(wanted, kinds);
                if (member != null) {
                    return member;
                }
            }
            return null;
        }

        boolean isBelow(Type other) {
            for (Type one = this; one != null; one = one.parent) {
                if (one == other) {
                    return true;
                }
            }
            return false;
        }
    }

    private static final class Member {
        final Type type;
        final int index;
        int kind = 0;
        /** Are its EXP and BODY STATIC places? */
        boolean still = false;
        long name = 0;
        /** Of its first token, and of its NAME or the word block. */
        int place, namePlace;
        /** Where its EXP or BODY stands in the code, the EXPS behind this or super, and the BODY's shape. */
        int code = NONE, head = NONE, shape = NONE;
        /** What can come out, as bits. */
        int comes = 0;

        // Of makers alone.
        private final long[] parameters = new long[PARAMETERS];
        int parameterCount = 0;
        int tells = 0;
        int callKind = 0, callPlace = NONE, callCount = 0;
        /** The maker that this or super leads to. */
        Member target = null;
        /** Where the code of the maker stands, and that of make(). */
        int orders = 0, entry = 0;

        Member(Type type, int index) {
            this.type = type;
            this.index = index;
        }

        int slot() {
            return type.index * MEMBERS + index;
        }

        /** A maker's number among all of the text. */
        int number() {
            return type.index * MAKERS + parameterCount;
        }

        /** Is it done when its TYPE is started, or when a THING of it is made? */
        boolean isInitial() {
            return (kind & (FIELD | STATIC | BLOCK)) != 0;
        }

        boolean isAbove(Member other) {
            return slot() < other.slot();
        }

        void addParameter(long word) {
            if (parameterCount < PARAMETERS) {
                parameters[parameterCount] = word;
                parameterCount++;
            }
        }

        int parameterNamed(long word) {
            for (int i = 0; i < parameterCount && i < PARAMETERS; i++) {
                if (parameters[i] == word) {
                    return i;
                }
            }
            return NONE;
        }
    }

    /** A NAME that stands in an EXP or in an S. */
    private static final class Use {
        final Member member;
        /** Does it stand in a STATIC place? */
        final boolean still;
        int kind = ALONE;
        boolean ahead = false;
        /** Of T . NAME the place of T and of NAME; else both are the same. */
        final int place;
        int namePlace;
        long name, owner = 0;
        /** How many EXPS new gives. */
        int count = 0;
        int parameter = NONE;
        Member means = null;
        /** Where its code stands. */
        int at = NONE;

        Use(Member member, boolean still, int place, long name) {
            this.member = member;
            this.still = still;
            this.place = place;
            this.namePlace = place;
            this.name = name;
        }

        int op() {
            if (kind == CALLED) {
                return OP_ACT;
            }
            if (kind == NEWED) {
                return OP_NEW;
            }
            if (means == null) {
                return ahead ? OP_SET_PARAMETER : OP_PARAMETER;
            }
            if (means.kind == FIELD) {
                return ahead ? OP_SET_FIELD : OP_FIELD;
            }
            if (means.kind == STATIC) {
                return ahead ? OP_SET_STATIC : OP_STATIC;
            }
            return OP_CONSTANT;
        }

        int operand() {
            if (means == null) {
                return parameter;
            }
            return kind == NEWED ? means.number() : means.slot();
        }
    }

    /** Reads TYPES and MEMBERS; notes what is told twice, a PARENT that is none, NUMBERS out of range. */
    private static final class Reader {
        private final Tokens tokens = new Tokens();
        private final Bodies bodies = new Bodies(tokens);
        private Text text = null;

        /** Is the text without FAULTS 1 to 3? */
        boolean reads(byte[] tape, int size, Text into) {
            text = into;
            tokens.scan(tape, size);
            bodies.begin(into);
            for (int i = 0; i <= TYPES && tokens.is(KEY_TYPE); i++) {
                Type one = head();
                for (int k = 0; k <= MEMBERS && startsMember(); k++) {
                    Member member = open(one);
                    if (tokens.take(KEY_FIELD)) {
                        fieldMember(member);
                    } else if (tokens.is(KEY_BLOCK)) {
                        blockMember(member);
                    } else if (member.still) {
                        tokens.fail(2);
                    } else if (tokens.take(KEY_CONST)) {
                        constMember(member);
                    } else if (tokens.take(KEY_ACT)) {
                        actMember(member);
                    } else {
                        makerMember(member);
                    }
                    one.add(member);
                }
                tokens.need('}');
                if (one.makerCount == 0) {
                    one.setMaker(0, silentMaker(one));
                }
            }
            if (!tokens.is(END)) {
                tokens.fail(2);
                into.fault = tokens.fault;
                into.faultPlace = tokens.faultPlace;
            }
            return tokens.fault == 0;
        }

        private Type head() {
            if (text.count >= TYPES) {
                tokens.fail(3);
            }
            tokens.take(KEY_TYPE);
            Type one = new Type(text.count);
            one.place = tokens.spot();
            one.name = tokens.needWord(NAME);
            if (text.typeNamed(one.name) != null) {
                text.note(4, one.place);
            }
            if (tokens.take(':')) {
                int place = tokens.spot();
                one.parent = text.typeNamed(tokens.needWord(NAME));
                if (one.parent == null) {
                    text.note(5, place);
                }
            }
            tokens.need('{');
            text.add(one);
            return one;
        }

        /** The maker of a TYPE that tells none. */
        private static Member silentMaker(Type one) {
            Member maker = new Member(one, NONE);
            maker.kind = MAKER;
            maker.place = one.place;
            return maker;
        }

        private boolean startsMember() {
            switch (tokens.kind()) {
                case KEY_CONST:
                case KEY_STATIC:
                case KEY_FIELD:
                case KEY_BLOCK:
                case KEY_MAKER:
                case KEY_ACT:
                    return true;
                default:
                    return false;
            }
        }

        private Member open(Type one) {
            if (one.count >= MEMBERS) {
                tokens.fail(3);
            }
            Member member = new Member(one, one.count);
            member.place = tokens.spot();
            member.still = tokens.take(KEY_STATIC);
            return member;
        }

        private void nameMember(Member member, int kind, int rivals) {
            member.kind = kind;
            member.namePlace = tokens.spot();
            member.name = tokens.needWord(NAME);
            if (member.type.own(member.name, rivals) != null) {
                text.note(4, member.namePlace);
            }
        }

        private void fieldMember(Member member) {
            nameMember(member, member.still ? STATIC : FIELD, FIELD | STATIC | CONSTANT);
            if (!member.still) {
                member.type.fieldCount++;
            }
            if (tokens.take('=')) {
                bodies.enter(member, member.still);
                member.code = text.size;
                bodies.exp();
                text.put(member.still ? OP_SET_STATIC : OP_SET_FIELD, member.slot());
                text.put(OP_BACK);
            }
            tokens.need(';');
        }

        private void constMember(Member member) {
            nameMember(member, CONSTANT, FIELD | STATIC | CONSTANT);
            member.still = true;
            tokens.need('=');
            bodies.enter(member, member.still);
            member.code = text.size;
            bodies.exp();
            text.put(OP_DONE);
            tokens.need(';');
        }

        private void blockMember(Member member) {
            member.kind = BLOCK;
            member.namePlace = tokens.spot();
            tokens.take(KEY_BLOCK);
            bodies.enterBody(member);
            bodies.body();
            text.form(CLOSED, 0, 0);
            text.put(OP_BACK);
        }

        private void actMember(Member member) {
            nameMember(member, ACT, ACT);
            tokens.need('(');
            tokens.need(')');
            bodies.enterBody(member);
            bodies.body();
            text.form(CLOSED, 0, 0);
            text.put(OP_PUSH, 0);
            text.put(OP_RETURN);
        }

        private void makerMember(Member member) {
            member.kind = MAKER;
            tokens.need(KEY_MAKER);
            parameters(member);
            if (tokens.take(KEY_FAILS)) {
                failures(member);
            }
            if (member.type.maker(member.parameterCount) != null) {
                text.note(4, member.place);
            } else {
                member.type.setMaker(member.parameterCount, member);
            }
            member.type.makerCount++;
            if (tokens.is(KEY_THIS) || tokens.is(KEY_SUPER)) {
                otherMaker(member);
            }
            bodies.enterBody(member);
            bodies.body();
            text.form(CLOSED, 0, 0);
            text.put(OP_BACK);
        }

        private void parameters(Member member) {
            tokens.need('(');
            boolean more = !tokens.is(')');
            for (int i = 0; i <= PARAMETERS && more; i++) {
                if (i == PARAMETERS && tokens.is(NAME)) {
                    tokens.fail(3);
                }
                int place = tokens.spot();
                long name = tokens.needWord(NAME);
                if (member.parameterNamed(name) != NONE) {
                    text.note(4, place);
                }
                member.addParameter(name);
                more = tokens.take(',');
            }
            tokens.need(')');
        }

        private void failures(Member member) {
            boolean more = true;
            for (int i = 0; i < TAPE && more; i++) {
                member.tells |= 1 << bodies.number(6);
                more = tokens.take(',');
            }
            member.tells &= NUMBERED;
        }

        private void otherMaker(Member member) {
            member.callKind = tokens.kind();
            member.callPlace = tokens.spot();
            tokens.take(member.callKind);
            bodies.enter(member, true);
            member.head = text.size;
            member.callCount = bodies.exps();
            text.put(OP_BACK);
            tokens.need(';');
        }
    }

    /** Reads BODIES and EXPS, writing their code and shape as it goes; NAMES are left to Judge. */
    private static final class Bodies {
        private final Tokens tokens;
        private Text text = null;
        private Member member = null;
        private boolean still = false;
        private int depth = 0, statements = 0;

        Bodies(Tokens tokens) {
            this.tokens = tokens;
        }

        void begin(Text into) {
            text = into;
            statements = 0;
            depth = 0;
        }

        void enter(Member of, boolean stillPlace) {
            member = of;
            still = stillPlace;
        }

        void enterBody(Member of) {
            enter(of, of.still);
            of.code = text.size;
            of.shape = text.shapes;
        }

        /** A NUMBER of 1 .. most; 0 if it is another one. */
        int number(int most) {
            int place = tokens.spot();
            long number = tokens.needWord(NUMBER);
            if (number < 1 || number > most) {
                text.note(9, place);
                return 0;
            }
            return (int) number;
        }

        /** Takes a token that holds others, unless it is within too many; deeper BODIES and FACTORS share one count. */
        private boolean opens(int kind) {
            if (tokens.is(kind) && depth >= NESTED) {
                tokens.fail(3);
            } else {
                tokens.need(kind);
            }
            if (tokens.fault != 0) {
                return false;
            }
            depth++;
            return true;
        }

        void body() {
            if (!opens('{')) {
                return;
            }
            text.form(OPENS, 0, 0);
            for (int i = 0; i <= STATEMENTS && startsStatement(); i++) {
                statement();
            }
            tokens.need('}');
            depth--;
        }

        private boolean startsStatement() {
            switch (tokens.kind()) {
                case NAME:
                case KEY_MARK:
                case KEY_THROW:
                case KEY_TRY:
                case KEY_IF:
                case KEY_NEW:
                    return true;
                case KEY_RETURN:
                    return member.kind == ACT;
                default:
                    return false;
            }
        }

        private void statement() {
            if (statements >= STATEMENTS) {
                tokens.fail(3);
                return;
            }
            statements++;
            text.put(OP_STEP);
            if (tokens.take(KEY_TRY)) {
                tryStatement();
            } else if (tokens.take(KEY_IF)) {
                ifStatement();
            } else if (tokens.is(NAME)) {
                setStatement();
            } else {
                plainStatement();
            }
        }

        private void plainStatement() {
            if (tokens.take(KEY_MARK)) {
                exp();
                text.put(OP_MARK);
            } else if (tokens.take(KEY_THROW)) {
                int number = number(6);
                text.put(OP_THROW, number);
                text.form(THROWS, number, 0);
            } else if (tokens.take(KEY_NEW)) {
                Use use = new Use(member, still, tokens.spot(), tokens.needWord(NAME));
                use.kind = NEWED;
                use.count = exps();
                text.put(OP_STEP);
                write(use);
                text.form(NEWS, text.uses.size() - 1, 0);
            } else if (tokens.take(KEY_RETURN)) {
                exp();
                text.put(OP_RETURN);
                text.form(RETURNS, 0, 0);
            }
            tokens.need(';');
        }

        private void setStatement() {
            Use use = new Use(member, still, tokens.spot(), tokens.needWord(NAME));
            use.ahead = true;
            dot(use);
            tokens.need('=');
            exp();
            tokens.need(';');
            write(use);
        }

        private void ifStatement() {
            tokens.need('(');
            exp();
            tokens.need('<');
            exp();
            tokens.need(')');
            int test = text.size;
            text.put(OP_IF, 0);
            body();
            if (tokens.take(KEY_ELSE)) {
                int skip = text.size;
                text.put(OP_SKIP, 0);
                text.patch(test + 1, text.size);
                body();
                text.patch(skip + 1, text.size);
                text.form(FORKS, 0, 0);
            } else {
                text.patch(test + 1, text.size);
                text.form(BRANCHES, 0, 0);
            }
        }

        private void tryStatement() {
            int at = text.size;
            text.put(OP_TRY, 0);
            text.put(NONE, NONE);
            text.put(NONE);
            body();
            text.put(OP_LEAVE);
            boolean whole = false;
            if (tokens.take(KEY_CATCH)) {
                whole = true;
                catchPart(at);
            }
            if (tokens.take(KEY_FINALLY)) {
                whole = true;
                text.patch(at + TRY_FINALLY, text.size);
                body();
                text.put(OP_FINISH);
                text.form(LASTLY, 0, 0);
            }
            if (!whole) {
                tokens.fail(2);
            }
            text.patch(at + TRY_END, text.size);
            text.form(TRIED, 0, 0);
        }

        private void catchPart(int at) {
            int place = tokens.spot();
            int number = number(9);
            text.patch(at + TRY_NUMBER, number);
            text.patch(at + TRY_CATCH, text.size);
            text.form(CATCHES, number, place);
            body();
            text.put(OP_LEAVE);
            text.form(CAUGHT, 0, 0);
        }

        /** EXPS in '(' and ')': how many. */
        int exps() {
            int count = 0;
            tokens.need('(');
            boolean more = !tokens.is(')');
            for (int i = 0; i < TAPE && more; i++) {
                exp();
                count++;
                more = tokens.take(',');
            }
            tokens.need(')');
            return count;
        }

        void exp() {
            term();
            for (int i = 0; i < TAPE && (tokens.is('+') || tokens.is('-')); i++) {
                int op = tokens.take('+') ? OP_ADD : OP_SUBTRACT;
                if (op == OP_SUBTRACT) {
                    tokens.take('-');
                }
                term();
                text.put(op);
            }
        }

        private void term() {
            factor();
            for (int i = 0; i < TAPE && termOp(tokens.kind()) != NONE; i++) {
                int sign = tokens.kind();
                tokens.take(sign);
                factor();
                text.put(termOp(sign));
            }
        }

        private static int termOp(int sign) {
            if (sign == '*') {
                return OP_MULTIPLY;
            }
            if (sign == '/') {
                return OP_DIVIDE;
            }
            return sign == '%' ? OP_REST : NONE;
        }

        private void factor() {
            if (tokens.is(NUMBER)) {
                text.put(OP_PUSH, (int) tokens.needWord(NUMBER));
            } else if (tokens.is(NAME)) {
                Use use = new Use(member, still, tokens.spot(), tokens.needWord(NAME));
                if (tokens.take('(')) {
                    use.kind = CALLED;
                    tokens.need(')');
                } else {
                    dot(use);
                }
                write(use);
            } else if (tokens.is('-')) {
                if (opens('-')) {
                    factor();
                    text.put(OP_NEGATE);
                    depth--;
                }
            } else if (opens('(')) {
                exp();
                tokens.need(')');
                depth--;
            }
        }

        private void dot(Use use) {
            if (tokens.take('.')) {
                use.kind = DOTTED;
                use.owner = use.name;
                use.namePlace = tokens.spot();
                use.name = tokens.needWord(NAME);
            }
        }

        private void write(Use use) {
            use.at = text.size;
            text.put(OP_DONE, 0);
            text.uses.add(use);
        }
    }

    /** What each NAME means, and where this and super lead: FAULTS 5 to 8 and 10. */
    private static final class Judge {
        private Judge() {
        }

        static void judge(Text text) {
            for (int i = 0; i < text.uses.size(); i++) {
                judgeUse(text, text.uses.get(i));
            }
            for (int t = 0; t < text.count; t++) {
                Type one = text.typeAt(t);
                for (int i = 0; one != null && i < one.count; i++) {
                    judgeMaker(text, one.memberAt(i));
                }
                if (one != null && one.makerCount == 0) {
                    judgeMaker(text, one.maker(0));
                }
            }
            for (int t = 0; t < text.count; t++) {
                Type one = text.typeAt(t);
                for (int n = 0; one != null && n < MAKERS; n++) {
                    judgeRing(text, one.maker(n));
                }
            }
        }

        private static void judgeUse(Text text, Use use) {
            switch (use.kind) {
                case ALONE:
                    judgeAlone(text, use);
                    break;
                case DOTTED:
                    judgeDotted(text, use);
                    break;
                case CALLED:
                    judgeCalled(text, use);
                    break;
                default:
                    judgeNew(text, use);
                    break;
            }
        }

        private static void judgeAlone(Text text, Use use) {
            use.parameter = use.member.parameterNamed(use.name);
            if (use.parameter != NONE) {
                return;
            }
            use.means = use.member.type.find(use.name, FIELD | STATIC | CONSTANT);
            if (use.means == null) {
                text.note(5, use.place);
                return;
            }
            if (use.still && use.means.kind == FIELD) {
                text.note(6, use.place);
            }
            if (isNoConstantAbove(use) || isTooEarly(use)) {
                text.note(7, use.place);
            }
            if (use.ahead && use.means.kind == CONSTANT) {
                text.note(8, use.place);
            }
        }

        private static void judgeDotted(Text text, Use use) {
            Type owner = text.typeNamed(use.owner);
            if (owner == null) {
                text.note(5, use.place);
                return;
            }
            use.means = owner.find(use.name, STATIC | CONSTANT);
            if (use.means == null) {
                text.note(5, use.namePlace);
                return;
            }
            if (isNoConstantAbove(use)) {
                text.note(7, use.place);
            }
            if (use.ahead && use.means.kind == CONSTANT) {
                text.note(8, use.namePlace);
            }
        }

        private static boolean isNoConstantAbove(Use use) {
            return use.member.kind == CONSTANT
                    && (use.means == null || use.means.kind != CONSTANT || !use.means.isAbove(use.member));
        }

        /** Is it asked for in a field's EXP or a block at or above the place where it is told? */
        private static boolean isTooEarly(Use use) {
            Member means = use.means;
            return !use.ahead && means != null && use.member.isInitial()
                    && means.type == use.member.type && means.index >= use.member.index
                    && means.kind == (use.still ? STATIC : FIELD);
        }

        private static void judgeCalled(Text text, Use use) {
            use.means = use.member.type.find(use.name, ACT);
            if (use.means == null) {
                text.note(5, use.place);
            } else if (use.still) {
                text.note(6, use.place);
            }
        }

        private static void judgeNew(Text text, Use use) {
            Type one = text.typeNamed(use.name);
            use.means = one == null ? null : one.maker(use.count);
            if (use.means == null) {
                text.note(5, use.place);
            }
        }

        private static void judgeMaker(Text text, Member maker) {
            if (maker == null || maker.kind != MAKER) {
                return;
            }
            Type home = maker.callKind == KEY_THIS ? maker.type : maker.type.parent;
            maker.target = home == null ? null : home.maker(maker.callCount);
            boolean well = maker.target != null || home == null && maker.callCount == 0;
            if (!well) {
                text.note(5, maker.callKind == 0 ? maker.place : maker.callPlace);
            }
        }

        /** Each this of a ring is noted: the first of them is the one that counts. */
        private static void judgeRing(Text text, Member maker) {
            Member next = maker;
            for (int i = 0; i < MAKERS && next != null && next.callKind == KEY_THIS; i++) {
                next = next.target;
                if (next == maker) {
                    text.note(10, maker.callPlace);
                }
            }
        }
    }

    /** What can come out of BODIES and makers, and which can end well: FAULT 11. */
    private static final class Flow {
        private static final int ROOM = 4 * (NESTED + 2);
        private final int[] outs = new int[ROOM];
        private final boolean[] wells = new boolean[ROOM];
        private int top = 0;
        private Text text = null;

        void judge(Text told) {
            text = told;
            for (int t = 0; t < told.count; t++) {
                Type one = told.typeAt(t);
                if (one == null) {
                    return;
                }
                int initial = 0;
                for (int i = 0; i < one.count; i++) {
                    initial |= judgeMember(one.memberAt(i));
                }
                for (int i = 0; i < one.count; i++) {
                    judgeMaker(one.memberAt(i), initial);
                }
                if (one.makerCount == 0) {
                    judgeMaker(one.maker(0), initial);
                }
            }
        }

        /** What comes out of the BODY of a block of a THING, of others 0. */
        private int judgeMember(Member member) {
            if (member == null || member.shape == NONE) {
                return 0;
            }
            follow(member.shape);
            member.comes = outs[0];
            if (member.kind == BLOCK && !wells[0]) {
                text.note(11, member.namePlace);
            }
            boolean closed = member.kind == ACT || member.kind == BLOCK && member.still;
            if (closed && (member.comes & CHECKED) != 0) {
                text.note(11, member.place);
            }
            return member.kind == BLOCK && !member.still ? member.comes : 0;
        }

        private void judgeMaker(Member maker, int initial) {
            if (maker == null || maker.kind != MAKER) {
                return;
            }
            if (maker.target != null) {
                maker.comes |= maker.target.tells;
            }
            if (maker.callKind != KEY_THIS) {
                maker.comes |= initial;
            }
            if ((maker.comes & CHECKED & ~maker.tells) != 0) {
                text.note(11, maker.place);
            }
        }

        /** Goes through one BODY's shape; what it found stands in the lowest row then. */
        private void follow(int shape) {
            top = 0;
            outs[0] = 0;
            wells[0] = true;
            for (int i = shape; i < text.shapes && text.shapeAt(i) != CLOSED; i += 3) {
                int event = text.shapeAt(i);
                if (event >= BRANCHES && event != CATCHES) {
                    close(event);
                } else {
                    meet(event, text.shapeAt(i + 1), text.shapeAt(i + 2));
                }
            }
            if (top == 1) {
                close(TRIED);
            }
        }

        private void meet(int event, int number, int place) {
            switch (event) {
                case OPENS:
                    top = top + 1 < ROOM ? top + 1 : top;
                    outs[top] = 0;
                    wells[top] = true;
                    break;
                case THROWS:
                    outs[top] |= 1 << number & NUMBERED;
                    wells[top] = false;
                    break;
                case RETURNS:
                    wells[top] = false;
                    break;
                case NEWS:
                    Use use = text.useAt(number);
                    outs[top] |= use == null || use.means == null ? 0 : use.means.tells;
                    break;
                default:
                    int bit = 1 << number & NUMBERED;
                    if ((bit & CHECKED & ~outs[top]) != 0) {
                        text.note(11, place);
                    }
                    outs[top] &= ~bit;
                    break;
            }
        }

        private void close(int event) {
            if (top < 1 || event == FORKS && top < 2) {
                return;
            }
            int out = outs[top];
            boolean well = wells[top];
            top--;
            switch (event) {
                case FORKS:
                    outs[top - 1] |= outs[top] | out;
                    wells[top - 1] &= wells[top] | well;
                    top--;
                    break;
                case CAUGHT:
                    outs[top] |= out;
                    wells[top] |= well;
                    break;
                case LASTLY:
                    outs[top] = well ? outs[top] | out : out;
                    wells[top] &= well;
                    break;
                case TRIED:
                    outs[top] |= out;
                    wells[top] &= well;
                    break;
                default:
                    outs[top] |= out;
                    break;
            }
        }
    }

    /** A MAKER or an ACT or a start that is under way; the lowest is the call of make() or start() itself. */
    private static final class Frame {
        int kind, type;
        /** Where the one below goes on, where the orders go on behind a piece of code, and its rest on the stack. */
        int back, link, base;
        /** Has a start come to its own EXPS and blocks? */
        boolean own;
        /** The frame that made the THING which this one works on; the THING stands there. */
        Frame home = null;
        int madeType = NONE;
        final int[] madeFields = new int[SLOTS];
        final int[] parameters = new int[PARAMETERS];
        private final int[] at = new int[NESTED + 1];
        private final int[] phases = new int[NESTED + 1];
        private final int[] waiting = new int[NESTED + 1];
        private final int[] values = new int[NESTED + 1];
        private int tries = 0;

        void clear() {
            own = false;
            link = 0;
            home = null;
            tries = 0;
        }

        boolean isTrying() {
            return tries > 0 && tries <= NESTED;
        }

        void openTry(int code) {
            if (tries < NESTED) {
                tries++;
                at[tries] = code;
                phases[tries] = IN_BODY;
                waiting[tries] = NOTHING;
            }
        }

        void closeTry() {
            if (tries > 0) {
                tries--;
            }
        }

        int tryCode() {
            return at[tries];
        }

        int phase() {
            return phases[tries];
        }

        void toCatch() {
            phases[tries] = IN_CATCH;
        }

        void toFinally(int what, int value) {
            phases[tries] = IN_FINALLY;
            waiting[tries] = what;
            values[tries] = value;
        }

        int waits() {
            return waiting[tries];
        }

        int waitingValue() {
            return values[tries];
        }
    }

    /** Runs the code of a text and keeps what TYPES hold, what is MARKED and the latest THING. */
    private static final class Machine {
        private Text text;
        private final int[] values = new int[SLOTS];
        private final int[] states = new int[TYPES];
        final int[] marks = new int[MARKS];
        int markCount = 0, made = 0, steps = 0;
        private final int[] stack = new int[STACK];
        private int top = 0;
        private final Frame[] frames = new Frame[FRAMES];
        private int depth = 0, calls = 0, pc = 0;
        private final Frame lowest = new Frame();
        private Frame now = lowest;
        /** In a constant's EXP a division by 0 gives 0. */
        private boolean lenient = false;
        /** What is on its way out of tries and frames: nothing, what was THROWN, what was returned. */
        private int leaving = NOTHING, leavingValue = 0;
        private boolean over = true;
        private int answer = 0;

        Machine(Text text) {
            this.text = text;
            frames[0] = lowest;
            for (int i = 1; i < FRAMES; i++) {
                frames[i] = new Frame();
            }
        }

        int stateOf(int t) {
            return t >= 0 && t < TYPES ? states[t] : NONE;
        }

        int valueAt(int slot) {
            return slot >= 0 && slot < SLOTS ? values[slot] : 0;
        }

        /** The TYPE of the THING of the latest make(), NONE without one. */
        int latest() {
            return lowest.madeType;
        }

        int latestField(int slot) {
            return slot >= 0 && slot < SLOTS ? lowest.madeFields[slot] : 0;
        }

        void begin(Text next) {
            text = next;
            Arrays.fill(values, 0);
            Arrays.fill(states, UNTOUCHED);
            markCount = 0;
            lowest.madeType = NONE;
            lenient = true;
            for (int slot = 0; slot < SLOTS; slot++) {
                Member member = next.memberAt(slot);
                if (member != null && member.kind == CONSTANT) {
                    clear();
                    go(member.code);
                    values[slot] = pop();
                }
            }
            lenient = false;
        }

        int build(Member maker, int a, int b, int c) {
            steps = 0;
            lowest.madeType = NONE;
            clear();
            for (int i = 0; i < maker.parameterCount; i++) {
                push(i == 0 ? a : i == 1 ? b : c);
            }
            go(maker.entry);
            return answer;
        }

        int ask(Type one) {
            steps = 0;
            clear();
            go(one.entry);
            return answer;
        }

        private void clear() {
            top = 0;
            depth = 0;
            calls = 0;
            now = lowest;
            now.clear();
            now.kind = TOP;
            now.base = 0;
        }

        private void go(int entry) {
            pc = entry;
            over = false;
            answer = 0;
            leaving = NOTHING;
            for (int i = 0; i < TURNS && !over; i++) {
                if (leaving == NOTHING) {
                    turn();
                } else if (now.isTrying()) {
                    leaveTry();
                } else {
                    leaveFrame();
                }
            }
            if (!over) {
                spend();
            }
        }

        private int next() {
            int number = text.codeAt(pc);
            pc++;
            return number;
        }

        private void push(int number) {
            if (top < STACK) {
                stack[top] = number;
                top++;
            }
        }

        private int pop() {
            if (top < 1) {
                return 0;
            }
            top--;
            return stack[top];
        }

        private void turn() {
            int op = next();
            switch (op) {
                case OP_PUSH:
                    push(next());
                    break;
                case OP_NEGATE:
                    push(-pop());
                    break;
                case OP_ADD:
                case OP_SUBTRACT:
                case OP_MULTIPLY:
                case OP_DIVIDE:
                case OP_REST:
                    compute(op);
                    break;
                case OP_PARAMETER:
                case OP_FIELD:
                case OP_STATIC:
                case OP_CONSTANT:
                    get(op, next());
                    break;
                case OP_SET_PARAMETER:
                case OP_SET_FIELD:
                case OP_SET_STATIC:
                    set(op, next());
                    break;
                case OP_ACT:
                    callAct(next());
                    break;
                case OP_NEW:
                    callNew(next());
                    break;
                case OP_MAKER:
                    callMaker(text.makerAt(next()), now.home);
                    break;
                case OP_ASK:
                    isReady(next());
                    break;
                default:
                    steer(op);
                    break;
            }
        }

        private void steer(int op) {
            switch (op) {
                case OP_STEP:
                    countStep();
                    break;
                case OP_MARK:
                    keepMark(pop());
                    break;
                case OP_THROW:
                    leaveWith(A_THROW, next());
                    break;
                case OP_IF:
                    test(next());
                    break;
                case OP_SKIP:
                    pc = next();
                    break;
                case OP_TRY:
                    now.openTry(pc - 1);
                    pc += TRY_END;
                    break;
                case OP_LEAVE:
                    endPart();
                    break;
                case OP_FINISH:
                    leaveWith(now.waits(), now.waitingValue());
                    now.closeTry();
                    break;
                case OP_RETURN:
                    leaveWith(A_RETURN, pop());
                    break;
                case OP_OWN:
                    now.own = true;
                    break;
                case OP_RUN:
                    int code = next();
                    now.link = pc;
                    pc = code;
                    break;
                case OP_BACK:
                    pc = now.link;
                    break;
                default:
                    done();
                    break;
            }
        }

        private void compute(int op) {
            int b = pop();
            int a = pop();
            switch (op) {
                case OP_ADD:
                    push(a + b);
                    break;
                case OP_SUBTRACT:
                    push(a - b);
                    break;
                case OP_MULTIPLY:
                    push(a * b);
                    break;
                default:
                    divide(op, a, b);
                    break;
            }
        }

        private void divide(int op, int a, int b) {
            if (b != 0) {
                push(op == OP_DIVIDE ? a / b : a % b);
            } else if (lenient) {
                push(0);
            } else {
                leaveWith(A_THROW, DIVIDED);
            }
        }

        private void get(int op, int slot) {
            if (slot < 0 || slot >= SLOTS) {
                return;
            }
            if (op == OP_CONSTANT || op == OP_STATIC && isReady(slot / MEMBERS)) {
                push(values[slot]);
            } else if (op == OP_FIELD && now.home != null) {
                push(now.home.madeFields[slot]);
            } else if (op == OP_PARAMETER && slot < PARAMETERS) {
                push(now.parameters[slot]);
            }
        }

        private void set(int op, int slot) {
            if (slot < 0 || slot >= SLOTS) {
                return;
            }
            if (op == OP_SET_STATIC && isReady(slot / MEMBERS)) {
                values[slot] = pop();
            } else if (op == OP_SET_FIELD && now.home != null) {
                now.home.madeFields[slot] = pop();
            } else if (op == OP_SET_PARAMETER && slot < PARAMETERS) {
                now.parameters[slot] = pop();
            }
        }

        /**
         * Can the code that asks for the TYPE go on? If the TYPE is to be started first, the asking
         * code, always of two numbers, is done once more behind its start.
         */
        private boolean isReady(int t) {
            Type one = text.typeAt(t);
            if (one == null || t < 0 || t >= TYPES) {
                return false;
            }
            if (states[t] == ABSENT) {
                leaveWith(A_THROW, GONE);
                return false;
            }
            if (states[t] == UNTOUCHED) {
                states[t] = UNDER_WAY;
                pc -= 2;
                enter(STARTING, t, one.orders);
                return false;
            }
            return true;
        }

        private void countStep() {
            if (steps < STEPS) {
                steps++;
            } else {
                spend();
            }
        }

        private void spend() {
            over = true;
            answer = SPENT;
            for (int i = 0; i < TYPES; i++) {
                if (states[i] == UNDER_WAY) {
                    states[i] = ABSENT;
                }
            }
        }

        private void keepMark(int number) {
            if (markCount < MARKS) {
                marks[markCount] = number;
                markCount++;
            }
        }

        private void test(int otherwise) {
            int b = pop();
            int a = pop();
            if (a >= b) {
                pc = otherwise;
            }
        }

        private void enter(int kind, int type, int code) {
            if (depth + 1 >= FRAMES) {
                spend();
                return;
            }
            depth++;
            now = frames[depth];
            now.clear();
            now.kind = kind;
            now.type = type;
            now.back = pc;
            now.base = top;
            pc = code;
        }

        private void drop() {
            pc = now.back;
            top = now.base;
            if (now.kind == CALLING) {
                calls--;
            }
            if (depth > 0) {
                depth--;
            }
            now = frames[depth];
        }

        private void callAct(int slot) {
            Frame home = now.home;
            Member told = text.memberAt(slot);
            Type own = home == null ? null : text.typeAt(home.madeType);
            Member act = own == null || told == null ? null : own.find(told.name, ACT);
            if (act == null) {
                return;
            }
            if (calls >= CALLS) {
                leaveWith(A_THROW, DEEP);
                return;
            }
            countStep();
            if (!over) {
                calls++;
                enter(CALLING, act.type.index, act.code);
                now.home = home;
            }
        }

        private void callNew(int number) {
            Member maker = text.makerAt(number);
            if (maker == null || !isReady(maker.type.index)) {
                return;
            }
            now.madeType = maker.type.index;
            Arrays.fill(now.madeFields, 0);
            if (now.kind == TOP) {
                made++;
            }
            callMaker(maker, now);
        }

        private void callMaker(Member maker, Frame home) {
            if (maker == null) {
                return;
            }
            if (calls >= CALLS) {
                leaveWith(A_THROW, DEEP);
                return;
            }
            int count = maker.parameterCount;
            int first = top - count;
            if (first < 0 || top > STACK) {
                return;
            }
            top = first;
            calls++;
            enter(CALLING, maker.type.index, maker.orders);
            now.home = home;
            for (int i = 0; i < count && i < PARAMETERS && first + i < STACK; i++) {
                now.parameters[i] = stack[first + i];
            }
        }

        private void done() {
            if (now.kind == TOP) {
                over = true;
                return;
            }
            if (now.kind == STARTING) {
                settle(STARTED);
            }
            drop();
        }

        private void settle(int state) {
            if (now.type >= 0 && now.type < TYPES) {
                states[now.type] = state;
            }
        }

        private void leaveWith(int what, int value) {
            leaving = what;
            leavingValue = value;
        }

        /** A catch takes what leaves the innermost try, or a finally makes it wait; else the try is left. */
        private void leaveTry() {
            int code = now.tryCode();
            boolean caught = leaving == A_THROW && now.phase() == IN_BODY
                    && text.codeAt(code + TRY_NUMBER) == leavingValue;
            if (caught) {
                now.toCatch();
                top = now.base;
                pc = text.codeAt(code + TRY_CATCH);
                leaving = NOTHING;
            } else if (!goesToFinally()) {
                now.closeTry();
            }
        }

        /** If the innermost try has a finally that has not begun, it is next; what leaves waits for its end. */
        private boolean goesToFinally() {
            int code = text.codeAt(now.tryCode() + TRY_FINALLY);
            if (now.phase() == IN_FINALLY || code == NONE) {
                return false;
            }
            now.toFinally(leaving, leavingValue);
            top = now.base;
            pc = code;
            leaving = NOTHING;
            return true;
        }

        /** Behind a BODY of a try, or its catch, that has ended well. */
        private void endPart() {
            if (!goesToFinally()) {
                pc = text.codeAt(now.tryCode() + TRY_END);
                now.closeTry();
            }
        }

        private void leaveFrame() {
            if (now.kind == TOP) {
                over = true;
                answer = leavingValue;
            } else if (leaving == A_RETURN) {
                drop();
                push(leavingValue);
                leaving = NOTHING;
            } else {
                if (now.kind == STARTING) {
                    settle(ABSENT);
                    leavingValue = now.own ? UNSTARTED : leavingValue;
                }
                drop();
            }
        }
    }
}
