import java.util.Arrays;
import java.util.NoSuchElementException;

/**
 * A kernel of type theory: it reads a text of declarations and checks them one by one.
 *
 * <p>Nothing here recurses: the parser and the checker keep what is still open in rows of their
 * own, so that the bounds of the document alone, and not the caller's stack, limit a run.
 */
public final class FamilyKernel {
    private static final int MOST_BYTES = 65536;
    private static final int BYTES_OF_A_FEED = 20;
    private static final int MOST_SIZE = 3000;
    private static final int MOST_DEPTH = 200;
    private static final int MOST_WORK = 60000;
    private static final int MOST_TEXT_SIZE = 6000;
    private static final int MOST_COPIES = 6000;
    private static final int MOST_WORDS_BOUND = 3000;
    private static final int MOST_NEST = 100;
    private static final int MOST_MAJORS = 60;
    private static final int MOST_CONVS = 120;
    private static final int MOST_INFERS = 150;
    private static final int MOST_NORMALS = 120;
    private static final int MOST_CONSTANTS = 300;
    private static final int MOST_SIZES = 30000;
    private static final int MOST_SORT = 100;
    private static final int MOST_LEVEL_WRITTEN = 99;

    /** Far above the turns that the bounds on SIZE, WORK and the TAPE leave to any loop. */
    private static final int MOST_TURNS = 1 << 24;

    /** Far above what the bounds leave to any row. */
    private static final int MOST_CELLS = 1 << 24;

    private static final int NONE = -1;

    private static final int FAULT_SIGN = 1;
    private static final int FAULT_NAME = 2;
    private static final int FAULT_NEST = 3;
    private static final int FAULT_TYPE = 4;
    private static final int FAULT_FUNCTION = 5;
    private static final int FAULT_NO_SORT = 6;
    private static final int FAULT_UNIVERSE = 7;
    private static final int FAULT_FAMILY = 8;
    private static final int FAULT_RECURSOR = 9;
    private static final int TOO_GREAT = 10;

    // The kinds of TERMS: those before APP have no TERM within.
    private static final int VAR = 0;
    private static final int FREE = 1;
    private static final int SORT = 2;
    private static final int CONST = 3;
    private static final int REC = 4;
    private static final int APP = 5;
    private static final int PI = 6;
    private static final int LAM = 7;
    private static final int LET = 8;
    /** The value and the body of a LET, so that every TERM has at most two within. */
    private static final int PAIR = 9;

    /** Stands for the sort e in a recursor's type and rules until e is known. */
    private static final int ANY_SORT = 101;

    // The ways of rewriting a TERM; OPEN and CLOSE are paid for.
    private static final int OPEN = 0;
    private static final int OPEN_IN_STEP = 1;
    private static final int CLOSE = 2;
    private static final int LIFT = 3;
    private static final int FREE_ALL = 4;
    private static final int AT_SORT = 5;

    // The kinds of CONSTANTS, as the document numbers them.
    private static final int AXIOM = 0;
    private static final int DEF = 1;
    private static final int THEOREM = 2;
    private static final int FAMILY = 3;
    private static final int MEMBER = 4;

    // What is known of a CONSTANT; the first eight are what constant() tells.
    private static final int KIND = 0;
    private static final int TYPE = 1;
    private static final int VALUE = 2;
    private static final int PARAMETERS = 3;
    private static final int INDICES = 4;
    private static final int MEMBERS = 5;
    private static final int ARGUMENTS = 6;
    private static final int RECURSIVE = 7;
    private static final int OWNER = 8;
    /** 1 if the recursor of the family may go into every sort. */
    private static final int LARGE = 9;
    /** Of a family the type of its recursor, of a member its rule. */
    private static final int ELIMINATION = 10;
    private static final int NAME = 11;
    private static final int FACTS = 12;

    // The kinds of tokens.
    private static final int T_END = 0;
    private static final int T_BAD = 1;
    private static final int T_NAME = 2;
    private static final int T_NUMBER = 3;
    private static final int T_AXIOM = 4;
    private static final int T_DEF = 5;
    private static final int T_THEOREM = 6;
    private static final int T_INDUCTIVE = 7;
    private static final int T_CHECK = 8;
    private static final int T_EVAL = 9;
    private static final int T_FUN = 10;
    private static final int T_FORALL = 11;
    private static final int T_LET = 12;
    private static final int T_IN = 13;
    private static final int T_PROP = 14;
    private static final int T_TYPE = 15;
    private static final int T_REC = 16;
    private static final int T_LEFT = 17;
    private static final int T_RIGHT = 18;
    private static final int T_LEFT_BRACE = 19;
    private static final int T_RIGHT_BRACE = 20;
    private static final int T_COLON = 21;
    private static final int T_COMMA = 22;
    private static final int T_DOT = 23;
    private static final int T_BAR = 24;
    private static final int T_ASSIGN = 25;
    private static final int T_DOUBLE_ARROW = 26;
    private static final int T_ARROW = 27;

    // What the parser does next; those from IN_PAREN on wait in its frames for a whole TERM.
    private static final int DONE = 0;
    private static final int AT_TERM = 1;
    private static final int AT_ATOM = 2;
    private static final int AT_GROUP = 3;
    private static final int AT_MEMBERS = 4;
    private static final int IN_PAREN = 5;
    private static final int BEHIND_ARROW = 6;
    private static final int IN_GROUP = 7;
    private static final int IN_BODY = 8;
    private static final int LET_TYPE = 9;
    private static final int LET_VALUE = 10;
    private static final int LET_BODY = 11;
    private static final int ROOT_TYPE = 12;
    private static final int ROOT_VALUE = 13;
    private static final int ROOT_CHECKED = 14;
    private static final int ROOT_FAMILY = 15;
    private static final int ROOT_MEMBER = 16;

    // What the checker does next with the top frame.
    private static final int OP_RETURN = 0;
    private static final int OP_WHNF = 1;
    private static final int OP_WHNF_MAJOR = 2;
    private static final int OP_CONV = 3;
    private static final int OP_CONV_LEFT = 4;
    private static final int OP_CONV_RIGHT = 5;
    private static final int OP_CONV_BODIES = 6;
    private static final int OP_CONV_LEAVE = 7;
    private static final int OP_CONV_ARGUMENTS = 8;
    private static final int OP_NORMAL = 9;
    private static final int OP_NORMAL_SPLIT = 10;
    private static final int OP_NORMAL_BODY = 11;
    private static final int OP_NORMAL_CLOSE = 12;
    private static final int OP_NORMAL_ARGUMENT = 13;
    private static final int OP_NORMAL_APPLY = 14;
    private static final int OP_INFER = 15;
    private static final int OP_PI_BODY = 16;
    private static final int OP_PI_END = 17;
    private static final int OP_LAM_BODY = 18;
    private static final int OP_LAM_END = 19;
    private static final int OP_LET_VALUE = 20;
    private static final int OP_LET_BODY = 21;
    private static final int OP_APP_TYPE = 22;
    private static final int OP_APP_ARGUMENT = 23;
    private static final int OP_APP_OPEN = 24;
    private static final int OP_SORT_TYPE = 25;
    private static final int OP_SORT_END = 26;
    private static final int OP_CHECK_TYPE = 27;
    private static final int OP_DECLARE = 28;
    private static final int OP_DECLARE_VALUE = 29;
    private static final int OP_EVAL = 30;
    private static final int OP_EVAL_TYPED = 31;
    private static final int OP_FAMILY = 32;
    private static final int OP_MEMBER = 33;
    private static final int OP_ARGUMENT = 34;
    private static final int OP_ARGUMENT_TESTED = 35;
    private static final int OP_MEMBER_TYPED = 36;

    private final Row tape;
    private final Row shown;
    private final Meter meter;
    private final Terms terms;
    private final Environment environment;
    private final Lexer lexer;
    private final Parser parser;
    private final Frames frames;
    private final Reducer reducer;
    private final Typer typer;
    private final Families families;
    private final Printer printer;
    private int declared;
    private int latestWork;

    public FamilyKernel() {
        tape = new Row(256, MOST_BYTES);
        shown = new Row(256, MOST_BYTES);
        meter = new Meter();
        terms = new Terms(meter);
        environment = new Environment();
        lexer = new Lexer(tape);
        parser = new Parser(tape, lexer, meter, terms, environment);
        frames = new Frames();
        reducer = new Reducer(frames, meter, terms, environment);
        typer = new Typer(frames, meter, terms, environment);
        families = new Families(frames, meter, terms, environment, parser);
        printer = new Printer(shown, terms, environment);
    }

    public int feed(int a, int b, int c, int d, int e) throws IllegalStateException {
        if (tape.size() + BYTES_OF_A_FEED > MOST_BYTES) {
            throw new IllegalStateException();
        }
        takeBytes(a);
        takeBytes(b);
        takeBytes(c);
        takeBytes(d);
        takeBytes(e);
        return tape.size();
    }

    private void takeBytes(int number) {
        for (int shift = 24; shift >= 0; shift -= 8) {
            tape.push((number >>> shift) & 255);
        }
    }

    public int end(int n) throws IllegalArgumentException {
        if (n < 0 || n > tape.size()) {
            throw new IllegalArgumentException();
        }
        tape.cut(n);
        return n;
    }

    public int read() {
        meter.forget();
        lexer.begin();
        int taken = 0;
        for (int turn = 0; turn <= MOST_BYTES && lexer.kind() != T_END; turn++) {
            int constants = environment.length();
            int nodes = terms.length();
            meter.begin(lexer.start());
            try {
                parser.declaration();
                work();
                if (parser.task() == OP_FAMILY) {
                    families.build();
                } else {
                    keep(nodes);
                }
            } catch (IllegalStateException fault) {
                environment.cut(constants);
                terms.release(nodes);
                break;
            }
            declared++;
            latestWork = meter.work();
            taken++;
        }
        tape.cut(0);
        return taken;
    }

    /** Checks what the parser has read: the frames carry the work that is still open. */
    private void work() {
        frames.begin(parser.task(), parser.type(), parser.value());
        for (int turn = 0; turn < MOST_TURNS && !frames.isEmpty(); turn++) {
            switch (frames.top(Frames.OP)) {
                case OP_WHNF: reducer.whnf(); break;
                case OP_WHNF_MAJOR: reducer.whnfMajor(); break;
                case OP_CONV: reducer.conv(); break;
                case OP_CONV_LEFT: reducer.convLeft(); break;
                case OP_CONV_RIGHT: reducer.convRight(); break;
                case OP_CONV_BODIES: reducer.convBodies(); break;
                case OP_CONV_LEAVE: reducer.convLeave(); break;
                case OP_CONV_ARGUMENTS: reducer.convArguments(); break;
                case OP_NORMAL: reducer.normal(); break;
                case OP_NORMAL_SPLIT: reducer.normalSplit(); break;
                case OP_NORMAL_BODY: reducer.normalBody(); break;
                case OP_NORMAL_CLOSE: reducer.normalClose(); break;
                case OP_NORMAL_ARGUMENT: reducer.normalArgument(); break;
                case OP_NORMAL_APPLY: reducer.normalApply(); break;
                case OP_INFER: typer.infer(); break;
                case OP_PI_BODY: typer.piBody(); break;
                case OP_PI_END: typer.piEnd(); break;
                case OP_LAM_BODY: typer.lamBody(); break;
                case OP_LAM_END: typer.lamEnd(); break;
                case OP_LET_VALUE: typer.letValue(); break;
                case OP_LET_BODY: typer.letBody(); break;
                case OP_APP_TYPE: typer.appType(); break;
                case OP_APP_ARGUMENT: typer.appArgument(); break;
                case OP_APP_OPEN: typer.appOpen(); break;
                case OP_SORT_TYPE: typer.sortType(); break;
                case OP_SORT_END: typer.sortEnd(); break;
                case OP_CHECK_TYPE: typer.checkType(); break;
                case OP_DECLARE: typer.declare(); break;
                case OP_DECLARE_VALUE: typer.declareValue(); break;
                case OP_EVAL: typer.eval(); break;
                case OP_EVAL_TYPED: typer.evalTyped(); break;
                case OP_FAMILY: families.family(); break;
                case OP_MEMBER: families.member(); break;
                case OP_ARGUMENT: families.argument(); break;
                case OP_ARGUMENT_TESTED: families.argumentTested(); break;
                case OP_MEMBER_TYPED: families.memberTyped(); break;
                default: frames.pop(); break;
            }
        }
        if (!frames.isEmpty()) {
            meter.fail(TOO_GREAT);
        }
    }

    /** Keeps what was checked; nodes is how many TERMS there were before the DECLARATION. */
    private void keep(int nodes) {
        if (parser.task() == OP_EVAL) {
            printer.print(frames.result(), 0);
            terms.release(nodes);
        } else if (parser.declared() == NONE) {
            terms.release(nodes);
        } else {
            keepConstant();
        }
    }

    private void keepConstant() {
        int constant = parser.declared();
        int value = parser.value();
        int size = terms.size(parser.type()) + (value == NONE ? 0 : terms.size(value));
        if (environment.sizes() + size > MOST_SIZES) {
            meter.fail(TOO_GREAT);
        }
        environment.fix(constant, TYPE, parser.type());
        environment.fix(constant, VALUE, value);
        environment.addSizes(size);
        terms.release(parser.nodes());
    }

    public int fault(int what) {
        if (what == 0) {
            return meter.code();
        }
        return what == 1 ? meter.place() : -1;
    }

    public int reset() {
        int had = environment.length();
        environment.clear();
        terms.release(0);
        declared = 0;
        return had;
    }

    public int constant(int k, int what) throws NoSuchElementException, IllegalArgumentException {
        if (k < 0 || k >= environment.length()) {
            throw new NoSuchElementException();
        }
        if (what < KIND || what > RECURSIVE) {
            throw new IllegalArgumentException();
        }
        int fact = environment.fact(k, what);
        if (what == TYPE || what == VALUE) {
            return fact == NONE ? 0 : terms.size(fact);
        }
        return fact;
    }

    public int show(int k, int what) throws NoSuchElementException, IllegalArgumentException {
        if (k < 0 || k >= environment.length()) {
            throw new NoSuchElementException();
        }
        if (what == VALUE && environment.fact(k, VALUE) == NONE) {
            throw new NoSuchElementException();
        }
        if (what < 0 || what > VALUE) {
            throw new IllegalArgumentException();
        }
        if (what == 0) {
            printer.printName(k);
        } else {
            printer.print(environment.fact(k, what), 0);
        }
        return shown.size();
    }

    public int showRec(int k, int s) throws NoSuchElementException {
        boolean family = k >= 0 && k < environment.length() && environment.fact(k, KIND) == FAMILY;
        if (!family || s < 0 || s > MOST_SORT || !environment.allows(k, s)) {
            throw new NoSuchElementException();
        }
        printer.print(environment.fact(k, ELIMINATION), s);
        return shown.size();
    }

    public int out(int i) throws IndexOutOfBoundsException {
        if (i < 0 || i >= shown.size()) {
            throw new IndexOutOfBoundsException();
        }
        return shown.at(i);
    }

    public int count(int what) {
        switch (what) {
            case 0: return environment.length();
            case 1: return declared;
            case 2: return latestWork;
            case 3: return environment.sizes();
            case 4: return tape.size();
            case 5: return shown.size();
            default: return -1;
        }
    }

    /** A row of numbers that grows, so that an object that does little holds little. */
    private static final class Row {
        private final int most;
        private int[] cells;
        private int length;

        /** What comes behind the most that it may hold is left out. */
        Row(int room, int most) {
            cells = new int[room > 0 ? room : 1];
            this.most = most;
        }

        int size() {
            return length;
        }

        int at(int index) {
            return index >= 0 && index < length ? cells[index] : 0;
        }

        void put(int index, int value) {
            if (index >= 0 && index < length) {
                cells[index] = value;
            }
        }

        void push(int value) {
            if (length >= most) {
                return;
            }
            if (length == cells.length) {
                cells = Arrays.copyOf(cells, 2 * length);
            }
            cells[length] = value;
            length++;
        }

        int pop() {
            if (length == 0) {
                return 0;
            }
            length--;
            return cells[length];
        }

        void cut(int size) {
            if (size >= 0 && size < length) {
                length = size;
            }
        }
    }

    /** The WORK of the DECLARATION, and the FAULT that ends it: a fault is thrown up to read. */
    private static final class Meter {
        private int work;
        private int code;
        private int place;
        private int start;

        void forget() {
            code = 0;
            place = 0;
        }

        void begin(int declaration) {
            work = 0;
            start = declaration;
        }

        int work() {
            return work;
        }

        int code() {
            return code;
        }

        int place() {
            return place;
        }

        void charge(int cost) {
            work += cost;
            if (work > MOST_WORK) {
                fail(TOO_GREAT);
            }
        }

        void fail(int fault) {
            code = fault;
            place = start;
            throw new IllegalStateException();
        }

        void failAt(int fault, int where) {
            code = fault;
            place = where;
            throw new IllegalStateException();
        }
    }

    /**
     * All TERMS, each made once: two that are the same have the same number. What is bound is
     * counted from the innermost binder outwards; a FREE variable is named by its level.
     */
    private static final class Terms {
        private static final int FIRST_ROOM = 256;
        private static final int MOST_ROOM = 1 << 19;
        private static final int SIZE_AT = 4;
        private static final int DEPTH_AT = 17;
        private static final int LOOSE_AT = 26;
        private static final int FREE_AT = 39;

        private final Meter meter;
        private final Row todo;
        private final Row offsets;
        private final Row built;
        /** Kind, SIZE, DEPTH, how far its loose variables and its FREE ones reach. */
        private long[] infos;
        private int[] lefts;
        private int[] rights;
        /** The chains of the hash table; a link is 1 more than the number it names, 0 ends it. */
        private int[] links;
        private int[] heads;
        private int length;

        Terms(Meter meter) {
            this.meter = meter;
            todo = new Row(64, MOST_CELLS);
            offsets = new Row(64, MOST_CELLS);
            built = new Row(64, MOST_CELLS);
            infos = new long[FIRST_ROOM];
            lefts = new int[FIRST_ROOM];
            rights = new int[FIRST_ROOM];
            links = new int[FIRST_ROOM];
            heads = new int[FIRST_ROOM];
        }

        int length() {
            return length;
        }

        int kind(int term) {
            return term >= 0 && term < length ? (int) infos[term] & 15 : 0;
        }

        int size(int term) {
            return term >= 0 && term < length ? (int) (infos[term] >>> SIZE_AT) & 8191 : 0;
        }

        private int depth(int term) {
            return term >= 0 && term < length ? (int) (infos[term] >>> DEPTH_AT) & 511 : 0;
        }

        private int loose(int term) {
            return term >= 0 && term < length ? (int) (infos[term] >>> LOOSE_AT) & 8191 : 0;
        }

        private int free(int term) {
            return term >= 0 && term < length ? (int) (infos[term] >>> FREE_AT) & 2047 : 0;
        }

        int left(int term) {
            return term >= 0 && term < length ? lefts[term] : 0;
        }

        int right(int term) {
            return term >= 0 && term < length ? rights[term] : 0;
        }

        int head(int term) {
            int head = term;
            for (int turn = 0; turn < MOST_SIZE && kind(head) == APP; turn++) {
                head = left(head);
            }
            return head;
        }

        /** How many TERMS stand behind the head. */
        int behind(int term) {
            int number = 0;
            for (int at = term; number < MOST_SIZE && kind(at) == APP; at = left(at)) {
                number++;
            }
            return number;
        }

        /** The TERM with so many others behind it. */
        int fromLast(int term, int others) {
            int at = term;
            for (int i = 0; i < others; i++) {
                at = left(at);
            }
            return right(at);
        }

        /** The one place where TERMS come from, and so where their SIZE and DEPTH are bounded. */
        int make(int kind, int left, int right) {
            int link = heads[slot(kind, left, right)];
            while (link > 0) {
                int term = link - 1;
                if (lefts[term] == left && rights[term] == right && kind(term) == kind) {
                    return term;
                }
                link = links[term];
            }
            int size = 1;
            int depth = 1;
            int loose = kind == VAR ? left + 1 : 0;
            int free = kind == FREE ? left + 1 : 0;
            if (kind >= APP) {
                int own = kind == PAIR ? 0 : 1;
                size = size(left) + size(right) + own;
                depth = kind == APP
                        ? Math.max(depth(left), depth(right) + 1)
                        : Math.max(depth(left), depth(right)) + own;
                loose = Math.max(loose(left), loose(right) - binds(kind));
                free = Math.max(free(left), free(right));
            }
            if (size > MOST_SIZE || depth > MOST_DEPTH || length >= MOST_ROOM) {
                meter.fail(TOO_GREAT);
            }
            if (length == infos.length) {
                grow();
            }
            int slot = slot(kind, left, right);
            infos[length] = (long) free << FREE_AT | (long) loose << LOOSE_AT
                    | (long) depth << DEPTH_AT | (long) size << SIZE_AT | kind;
            lefts[length] = left;
            rights[length] = right;
            links[length] = heads[slot];
            length++;
            heads[slot] = length;
            return length - 1;
        }

        private int slot(int kind, int left, int right) {
            int mixed = kind * 0x27D4EB2F + left * 0x9E3779B1 + right * 0x85EBCA6B;
            mixed ^= mixed >>> 15;
            return mixed & (heads.length - 1);
        }

        private static int binds(int kind) {
            return kind == PI || kind == LAM || kind == PAIR ? 1 : 0;
        }

        private void grow() {
            int room = 2 * infos.length;
            infos = Arrays.copyOf(infos, room);
            lefts = Arrays.copyOf(lefts, room);
            rights = Arrays.copyOf(rights, room);
            links = Arrays.copyOf(links, room);
            heads = new int[room];
            for (int term = 0; term < length; term++) {
                int slot = slot(kind(term), lefts[term], rights[term]);
                links[term] = heads[slot];
                heads[slot] = term + 1;
            }
        }

        /** Forgets the TERMS from mark on; the newest stands first in its chain. */
        void release(int mark) {
            for (int term = length - 1; term >= mark && term >= 0; term--) {
                heads[slot(kind(term), lefts[term], rights[term])] = links[term];
            }
            if (mark >= 0 && mark < length) {
                length = mark;
            }
        }

        /** The TERM with its leaves changed by the mode; a todo below 0 waits for its parts. */
        int rewrite(int mode, int term, int key) {
            todo.cut(0);
            offsets.cut(0);
            built.cut(0);
            todo.push(term);
            offsets.push(0);
            for (int turn = 0; turn < MOST_TURNS && todo.size() > 0; turn++) {
                int offset = offsets.pop();
                int at = todo.pop();
                if (at < 0) {
                    int right = built.pop();
                    int left = built.pop();
                    built.push(make(kind(-1 - at), left, right));
                } else if (isUntouched(mode, at, key, offset)) {
                    built.push(at);
                } else if (kind(at) < APP && mode <= OPEN_IN_STEP) {
                    built.push(key);
                } else if (kind(at) < APP) {
                    int name = changedName(mode, at, key, offset);
                    int sort = kind(at) == REC && right(at) == ANY_SORT ? key : right(at);
                    built.push(make(changedKind(mode, kind(at)), name, sort));
                } else {
                    todo.push(-1 - at);
                    offsets.push(0);
                    todo.push(right(at));
                    offsets.push(offset + binds(kind(at)));
                    todo.push(left(at));
                    offsets.push(offset);
                }
            }
            int made = built.pop();
            if (mode == OPEN || mode == CLOSE) {
                meter.charge(size(made));
            }
            return made;
        }

        private boolean isUntouched(int mode, int term, int key, int offset) {
            if (mode == AT_SORT) {
                return false;
            }
            return mode == CLOSE ? free(term) <= key : loose(term) <= offset;
        }

        private static int changedKind(int mode, int kind) {
            if (mode == CLOSE) {
                return VAR;
            }
            return mode == FREE_ALL ? FREE : kind;
        }

        private int changedName(int mode, int leaf, int key, int offset) {
            int name = left(leaf);
            switch (mode) {
                case CLOSE: return offset;
                case LIFT: return name + key;
                case FREE_ALL: return key - 1 - name + offset;
                default: return kind(leaf) == SORT && name == ANY_SORT ? key : name;
            }
        }

        /** Whether the CONSTANT key, or the variable that key binders outside bind, is in it. */
        boolean has(int term, int kind, int key) {
            todo.cut(0);
            offsets.cut(0);
            todo.push(term);
            offsets.push(0);
            for (int turn = 0; turn < MOST_TURNS && todo.size() > 0; turn++) {
                int offset = offsets.pop();
                int at = todo.pop();
                int sought = kind == VAR ? key + offset : key;
                if (kind(at) == kind && left(at) == sought) {
                    return true;
                }
                if (kind(at) >= APP && (kind != VAR || loose(at) > sought)) {
                    todo.push(right(at));
                    offsets.push(offset + binds(kind(at)));
                    todo.push(left(at));
                    offsets.push(offset);
                }
            }
            return false;
        }
    }

    /** The CONSTANTS, with FACTS numbers for each and the bytes of their NAMES. */
    private static final class Environment {
        private final Row facts;
        private final Row names;
        private int sizes;

        Environment() {
            facts = new Row(8 * FACTS, MOST_CELLS);
            names = new Row(64, MOST_CELLS);
        }

        int length() {
            return facts.size() / FACTS;
        }

        int sizes() {
            return sizes;
        }

        void addSizes(int more) {
            sizes += more;
        }

        void clear() {
            cut(0);
            sizes = 0;
        }

        int fact(int constant, int what) {
            return facts.at(constant * FACTS + what);
        }

        void fix(int constant, int what, int value) {
            facts.put(constant * FACTS + what, value);
        }

        int add(int kind, Lexer lexer) {
            int constant = length();
            int name = Lexer.named(names.size(), lexer.length());
            for (int i = 0; i < lexer.length(); i++) {
                names.push(lexer.sign(i));
            }
            for (int what = 0; what < FACTS; what++) {
                facts.push(0);
            }
            fix(constant, KIND, kind);
            fix(constant, TYPE, NONE);
            fix(constant, VALUE, NONE);
            fix(constant, NAME, name);
            return constant;
        }

        void cut(int constants) {
            if (constants < length()) {
                names.cut(Lexer.startOf(fact(constants, NAME)));
                facts.cut(constants * FACTS);
            }
        }

        /** The CONSTANT before limit that bears the word the lexer stands at. */
        int find(Lexer lexer, int limit) {
            for (int constant = 0; constant < limit && constant < length(); constant++) {
                if (lexer.standsAt(names, fact(constant, NAME))) {
                    return constant;
                }
            }
            return NONE;
        }

        int nameLength(int constant) {
            return Lexer.lengthOf(fact(constant, NAME));
        }

        int nameByte(int constant, int i) {
            return names.at(Lexer.startOf(fact(constant, NAME)) + i);
        }

        boolean allows(int family, int sort) {
            return sort == 0 || fact(family, LARGE) == 1;
        }
    }

    /** The TEXT as tokens; a token that is none is told apart, but judged only by the parser. */
    private static final class Lexer {
        private static final int MOST_SIGNS = 31;
        private static final int MOST_DIGITS = 4;
        /** A token is its start, its length (of a word or number) and its kind in one number. */
        private static final int STEP = 32;

        private final Row text;
        private final Row tokens;
        private int place;
        private int at;
        private int kind;
        private int start;
        private int length;

        Lexer(Row text) {
            this.text = text;
            tokens = new Row(64, MOST_CELLS);
        }

        void begin() {
            tokens.cut(0);
            place = 0;
            kind = T_BAD;
            for (int turn = 0; turn <= MOST_BYTES && kind != T_END; turn++) {
                scan();
                tokens.push(named(start, length) * STEP + kind);
            }
            at = -1;
            advance();
        }

        void advance() {
            at++;
            int token = tokens.at(at);
            kind = token % STEP;
            length = token / STEP % STEP;
            start = token / STEP / STEP;
        }

        int kind() {
            return kind;
        }

        int start() {
            return start;
        }

        int length() {
            return length;
        }

        /** Where a word stands and how long it is, in one number. */
        static int named(int start, int length) {
            return start * STEP + length;
        }

        static int startOf(int word) {
            return word / STEP;
        }

        static int lengthOf(int word) {
            return word % STEP;
        }

        int word() {
            return named(start, length);
        }

        int sign(int i) {
            return text.at(start + i);
        }

        int value() {
            int value = 0;
            for (int i = 0; i < length; i++) {
                value = 10 * value + sign(i) - '0';
            }
            return value;
        }

        /** Whether the word in that row is the one that stands here. */
        boolean standsAt(Row row, int word) {
            boolean same = lengthOf(word) == length;
            for (int i = 0; same && i < length; i++) {
                same = row.at(startOf(word) + i) == text.at(start + i);
            }
            return same;
        }

        private void scan() {
            skip();
            start = place;
            length = 0;
            int sign = text.at(place);
            if (place >= text.size()) {
                kind = T_END;
            } else if (isLetter(sign)) {
                scanWord();
            } else if (isDigit(sign)) {
                scanNumber();
            } else {
                scanSign(sign, text.at(place + 1));
            }
        }

        private void skip() {
            boolean comment = false;
            for (; place < text.size(); place++) {
                int sign = text.at(place);
                if (sign == '%') {
                    comment = true;
                } else if (sign == 10) {
                    comment = false;
                } else if (!comment && sign != 32 && sign != 9 && sign != 13) {
                    return;
                }
            }
        }

        private static boolean isLetter(int sign) {
            return sign >= 'a' && sign <= 'z' || sign >= 'A' && sign <= 'Z';
        }

        private static boolean isDigit(int sign) {
            return sign >= '0' && sign <= '9';
        }

        private static boolean isInWord(int sign) {
            return isLetter(sign) || isDigit(sign) || sign == '_' || sign == '\'';
        }

        private void scanWord() {
            while (place < text.size() && isInWord(text.at(place))) {
                place++;
            }
            boolean fits = place - start <= MOST_SIGNS;
            length = fits ? place - start : 0;
            kind = fits ? wordKind() : T_BAD;
        }

        private void scanNumber() {
            while (place < text.size() && isDigit(text.at(place))) {
                place++;
            }
            boolean fits = place - start <= MOST_DIGITS;
            length = fits ? place - start : 0;
            kind = fits ? T_NUMBER : T_BAD;
        }

        private void scanSign(int sign, int next) {
            boolean twice = sign == ':' && next == '=' || sign == '=' && next == '>'
                    || sign == '-' && next == '>';
            place += twice ? 2 : 1;
            switch (sign) {
                case '(': kind = T_LEFT; break;
                case ')': kind = T_RIGHT; break;
                case '{': kind = T_LEFT_BRACE; break;
                case '}': kind = T_RIGHT_BRACE; break;
                case ',': kind = T_COMMA; break;
                case '.': kind = T_DOT; break;
                case '|': kind = T_BAR; break;
                case ':': kind = twice ? T_ASSIGN : T_COLON; break;
                case '=': kind = twice ? T_DOUBLE_ARROW : T_BAD; break;
                case '-': kind = twice ? T_ARROW : T_BAD; break;
                default: kind = T_BAD; break;
            }
        }

        private int wordKind() {
            switch (text.at(start)) {
                case 'a': return reads("axiom") ? T_AXIOM : T_NAME;
                case 'd': return reads("def") ? T_DEF : T_NAME;
                case 't': return reads("theorem") ? T_THEOREM : T_NAME;
                case 'c': return reads("check") ? T_CHECK : T_NAME;
                case 'e': return reads("eval") ? T_EVAL : T_NAME;
                case 'l': return reads("let") ? T_LET : T_NAME;
                case 'r': return reads("rec") ? T_REC : T_NAME;
                case 'P': return reads("Prop") ? T_PROP : T_NAME;
                case 'T': return reads("Type") ? T_TYPE : T_NAME;
                case 'i':
                    if (reads("in")) {
                        return T_IN;
                    }
                    return reads("inductive") ? T_INDUCTIVE : T_NAME;
                case 'f':
                    if (reads("fun")) {
                        return T_FUN;
                    }
                    return reads("forall") ? T_FORALL : T_NAME;
                default: return T_NAME;
            }
        }

        private boolean reads(String word) {
            boolean same = word.length() == length;
            for (int i = 0; same && i < length; i++) {
                same = text.at(start + i) == word.charAt(i);
            }
            return same;
        }
    }

    /** Reads one DECLARATION; each sign is judged when all before it has been. */
    private static final class Parser {
        private static final int WIDTH = 3;
        /** The word that -> binds: no NAME means it. */
        private static final int NOBODY = -1;
        /** The binder of the BINDERS of inductive, which wait for no body. */
        private static final int NO_BINDER = 0;

        private final Row text;
        private final Lexer lexer;
        private final Meter meter;
        private final Terms terms;
        private final Environment environment;
        /** What waits for a whole TERM: which state then, and two numbers that it needs. */
        private final Row open;
        private final Row scope;
        private final Row pending;
        /** The type of each word that fun, forall and PARAMETERS bind, from the outermost on. */
        private final Row binders;
        private int state;
        private int nest;
        private int current;
        private int copies;
        private int textSize;
        private int known;
        private int constant;
        private int task;
        private int type;
        private int value;
        private int nodes;

        Parser(Row text, Lexer lexer, Meter meter, Terms terms, Environment environment) {
            this.text = text;
            this.lexer = lexer;
            this.meter = meter;
            this.terms = terms;
            this.environment = environment;
            open = new Row(16 * WIDTH, MOST_CELLS);
            scope = new Row(32, MOST_CELLS);
            pending = new Row(32, MOST_CELLS);
            binders = new Row(32, MOST_CELLS);
        }

        int task() {
            return task;
        }

        /** The CONSTANT that is declared (NONE for check and eval). */
        int declared() {
            return constant;
        }

        /** The type; of inductive without its PARAMETERS. */
        int type() {
            return type;
        }

        int value() {
            return value;
        }

        /** How many TERMS there were when the DECLARATION had been read. */
        int nodes() {
            return nodes;
        }

        int parameters() {
            return binders.size();
        }

        int parameterType(int i) {
            return binders.at(i);
        }

        /** PI PARAMETERS of a TERM that has them as loose variables. */
        int overParameters(int term) {
            int made = term;
            for (int i = binders.size() - 1; i >= 0; i--) {
                made = terms.make(PI, binders.at(i), made);
            }
            return made;
        }

        void declaration() {
            open.cut(0);
            scope.cut(0);
            pending.cut(0);
            binders.cut(0);
            nest = 0;
            copies = 0;
            textSize = 0;
            known = environment.length();
            constant = NONE;
            type = NONE;
            value = NONE;
            begin();
            for (int turn = 0; turn < MOST_TURNS && state != DONE; turn++) {
                switch (state) {
                    case AT_TERM: startTerm(); break;
                    case AT_ATOM: takeAtom(); break;
                    case AT_GROUP: startGroup(); break;
                    case AT_MEMBERS: takeMember(); break;
                    case IN_PAREN: endParen(); break;
                    case BEHIND_ARROW: endArrow(); break;
                    case IN_GROUP: endGroup(); break;
                    case IN_BODY: endBody(); break;
                    case LET_TYPE: endLetType(); break;
                    case LET_VALUE: endLetValue(); break;
                    case LET_BODY: endLetBody(); break;
                    case ROOT_TYPE: endType(); break;
                    case ROOT_VALUE: endValue(); break;
                    case ROOT_CHECKED: endChecked(); break;
                    case ROOT_FAMILY: endFamilyType(); break;
                    default: endMember(); break;
                }
            }
            if (state != DONE) {
                meter.fail(TOO_GREAT);
            }
            nodes = terms.length();
        }

        private void begin() {
            int keyword = lexer.kind();
            if (keyword < T_AXIOM || keyword > T_EVAL) {
                refuse();
            }
            lexer.advance();
            task = OP_DECLARE;
            switch (keyword) {
                case T_AXIOM: beginConstant(AXIOM); break;
                case T_DEF: beginConstant(DEF); break;
                case T_THEOREM: beginConstant(THEOREM); break;
                case T_INDUCTIVE: beginFamily(); break;
                case T_CHECK: await(ROOT_CHECKED, 0, 0); break;
                default:
                    task = OP_EVAL;
                    await(ROOT_VALUE, 0, 0);
                    break;
            }
        }

        private void beginConstant(int kind) {
            constant = takeNewName(kind);
            expect(T_COLON);
            await(ROOT_TYPE, kind, 0);
        }

        private void beginFamily() {
            task = OP_FAMILY;
            constant = takeNewName(FAMILY);
            if (lexer.kind() == T_LEFT) {
                hold(IN_BODY, NO_BINDER, 0);
                state = AT_GROUP;
            } else {
                expect(T_COLON);
                await(ROOT_FAMILY, 0, 0);
            }
        }

        private void refuse() {
            meter.failAt(FAULT_SIGN, lexer.start());
        }

        private void expect(int token) {
            if (lexer.kind() != token) {
                refuse();
            }
            lexer.advance();
        }

        private int takeNewName(int kind) {
            if (lexer.kind() != T_NAME) {
                refuse();
            }
            if (environment.find(lexer, MOST_CONSTANTS) != NONE) {
                meter.failAt(FAULT_NAME, lexer.start());
            }
            if (environment.length() >= MOST_CONSTANTS) {
                meter.fail(TOO_GREAT);
            }
            int made = environment.add(kind, lexer);
            lexer.advance();
            return made;
        }

        private void hold(int next, int first, int second) {
            open.push(next);
            open.push(first);
            open.push(second);
        }

        /** A TERM stands here; when it is whole, next is done with it. */
        private void await(int next, int first, int second) {
            hold(next, first, second);
            state = AT_TERM;
        }

        private void nest(int next, int first, int second) {
            await(next, first, second);
            nest++;
        }

        private int held(int field) {
            return open.at(open.size() - WIDTH + field);
        }

        private void drop() {
            open.cut(open.size() - WIDTH);
        }

        private void unnest() {
            drop();
            nest--;
        }

        private void beWhole(int term) {
            current = term;
            state = held(0);
        }

        private void startTerm() {
            if (nest > MOST_NEST) {
                meter.failAt(FAULT_NEST, lexer.start());
            }
            int token = lexer.kind();
            current = NONE;
            state = AT_ATOM;
            if (token == T_FUN || token == T_FORALL) {
                lexer.advance();
                hold(IN_BODY, token == T_FUN ? LAM : PI, 0);
                state = AT_GROUP;
            } else if (token == T_LET) {
                lexer.advance();
                int word = lexer.word();
                expect(T_NAME);
                expect(T_COLON);
                nest(LET_TYPE, word, 0);
            }
        }

        private void takeAtom() {
            int token = lexer.kind();
            if (token == T_NAME) {
                apply(resolve());
            } else if (token == T_PROP || token == T_TYPE) {
                apply(terms.make(SORT, takeSort(), 0));
            } else if (token == T_REC) {
                lexer.advance();
                apply(takeRecursor());
            } else if (token == T_LEFT) {
                lexer.advance();
                nest(IN_PAREN, current, 0);
            } else if (current == NONE) {
                refuse();
            } else if (token == T_ARROW) {
                lexer.advance();
                scope.push(NOBODY);
                nest(BEHIND_ARROW, current, 0);
            } else {
                beWhole(current);
            }
        }

        private void apply(int atom) {
            current = current == NONE ? atom : terms.make(APP, current, atom);
            state = AT_ATOM;
        }

        private int boundAt() {
            int at = scope.size() - 1;
            while (at >= 0 && (scope.at(at) == NOBODY || !lexer.standsAt(text, scope.at(at)))) {
                at--;
            }
            return at;
        }

        private int resolve() {
            int bound = boundAt();
            int found = bound >= 0 ? bound : environment.find(lexer, known);
            if (found == NONE) {
                meter.failAt(FAULT_NAME, lexer.start());
            }
            lexer.advance();
            return bound >= 0
                    ? terms.make(VAR, scope.size() - 1 - bound, 0)
                    : terms.make(CONST, found, 0);
        }

        private int takeRecursor() {
            if (lexer.kind() != T_NAME) {
                refuse();
            }
            int family = boundAt() >= 0 ? NONE : environment.find(lexer, known);
            boolean own = family == constant;
            if (family == NONE || own || environment.fact(family, KIND) != FAMILY) {
                meter.failAt(FAULT_NAME, lexer.start());
            }
            lexer.advance();
            return terms.make(REC, family, takeSort());
        }

        private int takeSort() {
            if (lexer.kind() == T_PROP) {
                lexer.advance();
                return 0;
            }
            if (lexer.kind() != T_TYPE) {
                refuse();
            }
            lexer.advance();
            if (lexer.kind() != T_NUMBER) {
                refuse();
            }
            int level = lexer.value();
            if (level > MOST_LEVEL_WRITTEN) {
                meter.failAt(FAULT_NEST, lexer.start());
            }
            lexer.advance();
            return level + 1;
        }

        private void startGroup() {
            expect(T_LEFT);
            int names = 0;
            while (names <= MOST_WORDS_BOUND && (names == 0 || lexer.kind() == T_NAME)) {
                if (lexer.kind() != T_NAME) {
                    refuse();
                }
                if (scope.size() + pending.size() >= MOST_WORDS_BOUND) {
                    meter.fail(TOO_GREAT);
                }
                pending.push(lexer.word());
                lexer.advance();
                names++;
            }
            expect(T_COLON);
            nest(IN_GROUP, names, 0);
        }

        private void endGroup() {
            int names = held(1);
            copies += terms.size(current) * (names - 1);
            if (copies > MOST_COPIES) {
                meter.fail(TOO_GREAT);
            }
            unnest();
            expect(T_RIGHT);
            int first = pending.size() - names;
            for (int i = 0; i < names; i++) {
                scope.push(pending.at(first + i));
                binders.push(terms.rewrite(LIFT, current, i));
            }
            pending.cut(first);
            open.put(open.size() - 1, held(2) + names);
            if (lexer.kind() == T_LEFT) {
                state = AT_GROUP;
            } else {
                startBody();
            }
        }

        private void startBody() {
            if (held(1) == NO_BINDER) {
                drop();
                expect(T_COLON);
                await(ROOT_FAMILY, 0, 0);
            } else {
                expect(held(1) == LAM ? T_DOUBLE_ARROW : T_COMMA);
                nest++;
                state = AT_TERM;
            }
        }

        private void endBody() {
            int made = current;
            for (int names = held(2); names > 0; names--) {
                made = terms.make(held(1), binders.pop(), made);
                scope.pop();
            }
            unnest();
            beWhole(made);
        }

        private void endParen() {
            int function = held(1);
            int atom = current;
            unnest();
            expect(T_RIGHT);
            current = function;
            apply(atom);
        }

        private void endArrow() {
            int made = terms.make(PI, held(1), current);
            scope.pop();
            unnest();
            beWhole(made);
        }

        private void endLetType() {
            int word = held(1);
            unnest();
            expect(T_ASSIGN);
            nest(LET_VALUE, word, current);
        }

        private void endLetValue() {
            int word = held(1);
            int bound = held(2);
            unnest();
            expect(T_IN);
            scope.push(word);
            nest(LET_BODY, bound, current);
        }

        private void endLetBody() {
            int made = terms.make(LET, held(1), terms.make(PAIR, held(2), current));
            scope.pop();
            unnest();
            beWhole(made);
        }

        private void endType() {
            type = current;
            int kind = held(1);
            drop();
            if (kind == DEF || kind == THEOREM) {
                expect(T_ASSIGN);
                await(ROOT_VALUE, 0, 0);
            } else {
                expect(T_DOT);
                state = DONE;
            }
        }

        private void endValue() {
            value = current;
            drop();
            expect(T_DOT);
            state = DONE;
        }

        private void endChecked() {
            value = current;
            drop();
            expect(T_COLON);
            await(ROOT_TYPE, AXIOM, 0);
        }

        private void endFamilyType() {
            type = current;
            drop();
            expect(T_ASSIGN);
            expect(T_LEFT_BRACE);
            int whole = overParameters(type);
            environment.fix(constant, TYPE, whole);
            textSize = terms.size(whole);
            known = constant + 1;
            state = AT_MEMBERS;
        }

        private void takeMember() {
            if (lexer.kind() == T_BAR) {
                lexer.advance();
                int member = takeNewName(MEMBER);
                expect(T_COLON);
                await(ROOT_MEMBER, member, 0);
            } else {
                expect(T_RIGHT_BRACE);
                expect(T_DOT);
                if (textSize > MOST_TEXT_SIZE) {
                    meter.fail(TOO_GREAT);
                }
                state = DONE;
            }
        }

        /** The TERM waits in the place of the type until its PARAMETERS are put before it. */
        private void endMember() {
            environment.fix(held(1), TYPE, current);
            textSize += terms.size(current);
            drop();
            state = AT_MEMBERS;
        }
    }

    /** What the checker has open, the answer of the last frame that ended, and the VARIABLES. */
    private static final class Frames {
        static final int OP = 0;
        static final int FIRST = 1;
        static final int SECOND = 2;
        static final int THIRD = 3;
        static final int DEEP = 4;
        private static final int WIDTH = 5;

        private final Row cells;
        private final Row types;
        private int result;

        Frames() {
            cells = new Row(32 * WIDTH, MOST_CELLS);
            types = new Row(32, MOST_CELLS);
        }

        void begin(int op, int first, int second) {
            cells.cut(0);
            types.cut(0);
            push(op, first, second, 0);
        }

        boolean isEmpty() {
            return cells.size() == 0;
        }

        void push(int op, int first, int second, int deep) {
            cells.push(op);
            cells.push(first);
            cells.push(second);
            cells.push(0);
            cells.push(deep);
        }

        void pop() {
            cells.cut(cells.size() - WIDTH);
        }

        int top(int field) {
            return cells.at(cells.size() - WIDTH + field);
        }

        void set(int field, int value) {
            cells.put(cells.size() - WIDTH + field, value);
        }

        /** The top frame ends with this answer. */
        void give(int answer) {
            result = answer;
            pop();
        }

        int result() {
            return result;
        }

        /** The level of a new VARIABLE; levels in use are those of the binders around. */
        int newVariable(int type) {
            types.push(type);
            return types.size() - 1;
        }

        /** The level of the newest VARIABLE, which is not needed any more. */
        int dropVariable() {
            types.pop();
            return types.size();
        }

        void dropVariables() {
            types.cut(0);
        }

        int typeOf(int level) {
            return types.at(level);
        }
    }

    /** WHNF, CONV and NORMAL FORM: one method for each turn of a frame. */
    private static final class Reducer {
        private final Frames frames;
        private final Meter meter;
        private final Terms terms;
        private final Environment environment;
        private final Row given;

        Reducer(Frames frames, Meter meter, Terms terms, Environment environment) {
            this.frames = frames;
            this.meter = meter;
            this.terms = terms;
            this.environment = environment;
            given = new Row(32, MOST_CELLS);
        }

        /** FIRST is the TERM, DEEP how many MAJORS it is within. */
        void whnf() {
            int term = frames.top(Frames.FIRST);
            int head = terms.head(term);
            int behind = terms.behind(term);
            int kind = terms.kind(head);
            if (kind == LAM && behind > 0) {
                int argument = terms.fromLast(term, behind - 1);
                step(terms.rewrite(OPEN_IN_STEP, terms.right(head), argument), behind - 1);
            } else if (kind == LET) {
                int pair = terms.right(head);
                step(terms.rewrite(OPEN_IN_STEP, terms.right(pair), terms.left(pair)), behind);
            } else if (kind == CONST && environment.fact(terms.left(head), KIND) == DEF) {
                step(environment.fact(terms.left(head), VALUE), behind);
            } else if (kind == REC && behind > majorPlace(terms.left(head))) {
                askMajor(term, behind - 1 - majorPlace(terms.left(head)));
            } else {
                frames.give(term);
            }
        }

        private int majorPlace(int family) {
            return environment.fact(family, PARAMETERS) + 1 + environment.fact(family, MEMBERS)
                    + environment.fact(family, INDICES);
        }

        private void askMajor(int term, int behindMajor) {
            int deep = frames.top(Frames.DEEP) + 1;
            if (deep > MOST_MAJORS) {
                meter.fail(TOO_GREAT);
            }
            frames.set(Frames.OP, OP_WHNF_MAJOR);
            frames.push(OP_WHNF, terms.fromLast(term, behindMajor), 0, deep);
        }

        /** The new head before the last TERMS of the old whole. */
        private void step(int head, int kept) {
            given.cut(0);
            giveLast(frames.top(Frames.FIRST), kept);
            applyGiven(head);
        }

        private int giveLast(int term, int number) {
            int at = term;
            for (int i = 0; i < number; i++) {
                given.push(terms.right(at));
                at = terms.left(at);
            }
            return at;
        }

        private void applyGiven(int head) {
            int made = head;
            while (given.size() > 0) {
                made = terms.make(APP, made, given.pop());
            }
            meter.charge(terms.size(made));
            frames.set(Frames.FIRST, made);
        }

        void whnfMajor() {
            int term = frames.top(Frames.FIRST);
            int major = frames.result();
            int recursor = terms.head(term);
            int family = terms.left(recursor);
            int member = terms.head(major);
            int constant = terms.left(member);
            int takes = environment.fact(constant, ARGUMENTS);
            int parameters = environment.fact(family, PARAMETERS);
            if (terms.kind(member) != CONST || environment.fact(constant, KIND) != MEMBER
                    || environment.fact(constant, OWNER) != family
                    || terms.behind(major) != parameters + takes) {
                frames.give(term);
                return;
            }
            int behindMajor = terms.behind(term) - 1 - majorPlace(family);
            given.cut(0);
            int rest = giveLast(term, behindMajor);
            for (int i = environment.fact(family, INDICES); i >= 0; i--) {
                rest = terms.left(rest);
            }
            giveLast(major, takes);
            giveLast(rest, terms.behind(rest));
            frames.set(Frames.OP, OP_WHNF);
            int rule = environment.fact(constant, ELIMINATION);
            applyGiven(terms.rewrite(AT_SORT, rule, terms.right(recursor)));
        }

        /** FIRST and SECOND are what is compared; that they differ is the FAULT of a CHECK. */
        void conv() {
            meter.charge(1);
            if (frames.top(Frames.DEEP) > MOST_CONVS) {
                meter.fail(TOO_GREAT);
            }
            if (frames.top(Frames.FIRST) == frames.top(Frames.SECOND)) {
                frames.pop();
            } else {
                frames.set(Frames.OP, OP_CONV_LEFT);
                frames.push(OP_WHNF, frames.top(Frames.FIRST), 0, 0);
            }
        }

        void convLeft() {
            frames.set(Frames.FIRST, frames.result());
            frames.set(Frames.OP, OP_CONV_RIGHT);
            frames.push(OP_WHNF, frames.top(Frames.SECOND), 0, 0);
        }

        void convRight() {
            int left = frames.top(Frames.FIRST);
            int right = frames.result();
            int leftKind = terms.kind(left);
            int rightKind = terms.kind(right);
            frames.set(Frames.SECOND, right);
            if (left == right) {
                frames.pop();
            } else if (leftKind == rightKind && (leftKind == PI || leftKind == LAM)) {
                frames.set(Frames.OP, OP_CONV_BODIES);
                convWithin(terms.left(left), terms.left(right));
            } else if (leftKind == LAM && rightKind != PI && rightKind != SORT) {
                int variable = terms.make(FREE, frames.newVariable(NONE), 0);
                int opened = terms.rewrite(OPEN, terms.right(left), variable);
                frames.set(Frames.OP, OP_CONV_LEAVE);
                convWithin(opened, terms.make(APP, right, variable));
            } else if (rightKind == LAM && leftKind != PI && leftKind != SORT) {
                int variable = terms.make(FREE, frames.newVariable(NONE), 0);
                int opened = terms.rewrite(OPEN, terms.right(right), variable);
                frames.set(Frames.OP, OP_CONV_LEAVE);
                convWithin(terms.make(APP, left, variable), opened);
            } else {
                convHeads(left, right);
            }
        }

        private void convWithin(int left, int right) {
            frames.push(OP_CONV, left, right, frames.top(Frames.DEEP) + 1);
        }

        private void convHeads(int left, int right) {
            int behind = terms.behind(left);
            if (terms.head(left) != terms.head(right) || behind != terms.behind(right)) {
                meter.fail(FAULT_TYPE);
            }
            frames.set(Frames.OP, OP_CONV_ARGUMENTS);
            frames.set(Frames.THIRD, behind);
        }

        void convBodies() {
            int left = frames.top(Frames.FIRST);
            int right = frames.top(Frames.SECOND);
            int variable = terms.make(FREE, frames.newVariable(NONE), 0);
            int leftBody = terms.rewrite(OPEN, terms.right(left), variable);
            int rightBody = terms.rewrite(OPEN, terms.right(right), variable);
            frames.set(Frames.OP, OP_CONV_LEAVE);
            convWithin(leftBody, rightBody);
        }

        void convLeave() {
            frames.dropVariable();
            frames.pop();
        }

        /** THIRD is how many of the TERMS behind the heads are still to be compared. */
        void convArguments() {
            int others = frames.top(Frames.THIRD) - 1;
            if (others < 0) {
                frames.pop();
            } else {
                frames.set(Frames.THIRD, others);
                convWithin(terms.fromLast(frames.top(Frames.FIRST), others),
                        terms.fromLast(frames.top(Frames.SECOND), others));
            }
        }

        void normal() {
            if (frames.top(Frames.DEEP) > MOST_NORMALS) {
                meter.fail(TOO_GREAT);
            }
            frames.set(Frames.OP, OP_NORMAL_SPLIT);
            frames.push(OP_WHNF, frames.top(Frames.FIRST), 0, 0);
        }

        /** FIRST becomes the WHNF, SECOND what is put together, THIRD how many are to come. */
        void normalSplit() {
            int term = frames.result();
            int kind = terms.kind(term);
            frames.set(Frames.FIRST, term);
            if (kind == PI || kind == LAM) {
                frames.set(Frames.OP, OP_NORMAL_BODY);
                normalWithin(terms.left(term));
            } else {
                frames.set(Frames.OP, OP_NORMAL_ARGUMENT);
                frames.set(Frames.SECOND, terms.head(term));
                frames.set(Frames.THIRD, terms.behind(term));
            }
        }

        private void normalWithin(int term) {
            frames.push(OP_NORMAL, term, 0, frames.top(Frames.DEEP) + 1);
        }

        void normalBody() {
            frames.set(Frames.SECOND, frames.result());
            frames.set(Frames.OP, OP_NORMAL_CLOSE);
            int variable = terms.make(FREE, frames.newVariable(NONE), 0);
            normalWithin(terms.rewrite(OPEN, terms.right(frames.top(Frames.FIRST)), variable));
        }

        void normalClose() {
            int body = terms.rewrite(CLOSE, frames.result(), frames.dropVariable());
            int kind = terms.kind(frames.top(Frames.FIRST));
            frames.give(terms.make(kind, frames.top(Frames.SECOND), body));
        }

        void normalArgument() {
            int others = frames.top(Frames.THIRD) - 1;
            if (others < 0) {
                frames.give(frames.top(Frames.SECOND));
            } else {
                frames.set(Frames.THIRD, others);
                frames.set(Frames.OP, OP_NORMAL_APPLY);
                normalWithin(terms.fromLast(frames.top(Frames.FIRST), others));
            }
        }

        void normalApply() {
            int made = terms.make(APP, frames.top(Frames.SECOND), frames.result());
            frames.set(Frames.SECOND, made);
            frames.set(Frames.OP, OP_NORMAL_ARGUMENT);
        }
    }

    /** INFER, SORTOF and CHECK, and what a DECLARATION other than inductive asks of them. */
    private static final class Typer {
        private final Frames frames;
        private final Meter meter;
        private final Terms terms;
        private final Environment environment;

        Typer(Frames frames, Meter meter, Terms terms, Environment environment) {
            this.frames = frames;
            this.meter = meter;
            this.terms = terms;
            this.environment = environment;
        }

        /** FIRST is the TERM, DEEP how many INFER are within one another with this one. */
        void infer() {
            if (frames.top(Frames.DEEP) > MOST_INFERS) {
                meter.fail(TOO_GREAT);
            }
            int term = frames.top(Frames.FIRST);
            switch (terms.kind(term)) {
                case FREE: frames.give(frames.typeOf(terms.left(term))); break;
                case SORT: inferSort(terms.left(term)); break;
                case CONST: frames.give(environment.fact(terms.left(term), TYPE)); break;
                case REC: inferRecursor(terms.left(term), terms.right(term)); break;
                case PI: sortWithin(OP_PI_BODY, terms.left(term)); break;
                case LAM: sortWithin(OP_LAM_BODY, terms.left(term)); break;
                case LET: sortWithin(OP_LET_VALUE, terms.left(term)); break;
                default:
                    frames.set(Frames.OP, OP_APP_TYPE);
                    frames.set(Frames.THIRD, terms.behind(term));
                    inferWithin(terms.head(term));
                    break;
            }
        }

        private void inferSort(int sort) {
            if (sort >= MOST_SORT) {
                meter.fail(FAULT_UNIVERSE);
            }
            frames.give(terms.make(SORT, sort + 1, 0));
        }

        private void inferRecursor(int family, int sort) {
            if (!environment.allows(family, sort)) {
                meter.fail(FAULT_RECURSOR);
            }
            int type = environment.fact(family, ELIMINATION);
            meter.charge(terms.size(type));
            frames.give(terms.rewrite(AT_SORT, type, sort));
        }

        private void inferWithin(int term) {
            frames.push(OP_INFER, term, 0, frames.top(Frames.DEEP) + 1);
        }

        private void sortWithin(int next, int type) {
            int deep = frames.top(Frames.DEEP) + 1;
            frames.set(Frames.OP, next);
            frames.push(OP_SORT_TYPE, 0, 0, 0);
            frames.push(OP_INFER, type, 0, deep);
        }

        private void checkWithin(int next, int term, int type) {
            int deep = frames.top(Frames.DEEP) + 1;
            frames.set(Frames.OP, next);
            frames.push(OP_CHECK_TYPE, type, 0, 0);
            frames.push(OP_INFER, term, 0, deep);
        }

        void sortType() {
            frames.set(Frames.OP, OP_SORT_END);
            frames.push(OP_WHNF, frames.result(), 0, 0);
        }

        void sortEnd() {
            if (terms.kind(frames.result()) != SORT) {
                meter.fail(FAULT_NO_SORT);
            }
            frames.give(terms.left(frames.result()));
        }

        void checkType() {
            int type = frames.top(Frames.FIRST);
            frames.set(Frames.OP, OP_RETURN);
            frames.push(OP_CONV, frames.result(), type, 1);
        }

        private int openBody(int term) {
            int variable = terms.make(FREE, frames.newVariable(terms.left(term)), 0);
            return terms.rewrite(OPEN, terms.right(term), variable);
        }

        void piBody() {
            frames.set(Frames.SECOND, frames.result());
            sortWithin(OP_PI_END, openBody(frames.top(Frames.FIRST)));
        }

        void piEnd() {
            int sort = frames.result();
            frames.dropVariable();
            frames.give(terms.make(SORT, sort == 0 ? 0 : Math.max(sort, frames.top(Frames.SECOND)), 0));
        }

        void lamBody() {
            frames.set(Frames.OP, OP_LAM_END);
            inferWithin(openBody(frames.top(Frames.FIRST)));
        }

        void lamEnd() {
            int type = terms.rewrite(CLOSE, frames.result(), frames.dropVariable());
            frames.give(terms.make(PI, terms.left(frames.top(Frames.FIRST)), type));
        }

        void letValue() {
            int term = frames.top(Frames.FIRST);
            checkWithin(OP_LET_BODY, terms.left(terms.right(term)), terms.left(term));
        }

        void letBody() {
            int pair = terms.right(frames.top(Frames.FIRST));
            frames.set(Frames.OP, OP_RETURN);
            inferWithin(terms.rewrite(OPEN, terms.right(pair), terms.left(pair)));
        }

        void appType() {
            askFunction(frames.result());
        }

        private void askFunction(int type) {
            frames.set(Frames.OP, OP_APP_ARGUMENT);
            frames.push(OP_WHNF, type, 0, 0);
        }

        /** SECOND becomes the PI, THIRD is how many TERMS are still to be checked. */
        void appArgument() {
            int type = frames.result();
            if (terms.kind(type) != PI) {
                meter.fail(FAULT_FUNCTION);
            }
            frames.set(Frames.SECOND, type);
            checkWithin(OP_APP_OPEN, nextArgument(), terms.left(type));
        }

        private int nextArgument() {
            return terms.fromLast(frames.top(Frames.FIRST), frames.top(Frames.THIRD) - 1);
        }

        void appOpen() {
            int body = terms.right(frames.top(Frames.SECOND));
            int type = terms.rewrite(OPEN, body, nextArgument());
            int others = frames.top(Frames.THIRD) - 1;
            if (others == 0) {
                frames.give(type);
            } else {
                frames.set(Frames.THIRD, others);
                askFunction(type);
            }
        }

        void declare() {
            sortWithin(OP_DECLARE_VALUE, frames.top(Frames.FIRST));
        }

        void declareValue() {
            if (frames.top(Frames.SECOND) == NONE) {
                frames.pop();
            } else {
                checkWithin(OP_RETURN, frames.top(Frames.SECOND), frames.top(Frames.FIRST));
            }
        }

        void eval() {
            frames.set(Frames.OP, OP_EVAL_TYPED);
            inferWithin(frames.top(Frames.SECOND));
        }

        void evalTyped() {
            frames.set(Frames.OP, OP_RETURN);
            frames.push(OP_NORMAL, frames.top(Frames.SECOND), 0, 1);
        }
    }

    /** The tests of inductive, its recursor's type and its rules. */
    private static final class Families {
        private final Frames frames;
        private final Meter meter;
        private final Terms terms;
        private final Environment environment;
        private final Parser parser;
        /** The SORTOF of each ARGUMENT of the CONSTRUCTOR at hand. */
        private final Row sorts;
        private final Row domains;
        private final Row hypotheses;
        private final Row within;
        private final Row minors;
        private int family;
        private int parameters;
        private int indices;
        private int members;
        private int sort;
        private int motive;
        private int at;
        private int rest;

        Families(Frames frames, Meter meter, Terms terms, Environment environment, Parser parser) {
            this.frames = frames;
            this.meter = meter;
            this.terms = terms;
            this.environment = environment;
            this.parser = parser;
            sorts = new Row(16, MOST_CELLS);
            domains = new Row(16, MOST_CELLS);
            hypotheses = new Row(16, MOST_CELLS);
            within = new Row(16, MOST_CELLS);
            minors = new Row(16, MOST_CELLS);
        }

        void family() {
            family = parser.declared();
            parameters = parser.parameters();
            members = environment.length() - family - 1;
            indices = 0;
            at = 0;
            int end = parser.type();
            for (; indices < MOST_SIZE && terms.kind(end) == PI; indices++) {
                end = terms.right(end);
            }
            if (terms.kind(end) != SORT) {
                meter.fail(FAULT_FAMILY);
            }
            sort = terms.left(end);
            environment.fix(family, PARAMETERS, parameters);
            environment.fix(family, INDICES, indices);
            environment.fix(family, MEMBERS, members);
            environment.fix(family, LARGE, sort != 0 || members == 0 ? 1 : 0);
            sortOf(OP_MEMBER, environment.fact(family, TYPE));
        }

        private void sortOf(int next, int term) {
            frames.set(Frames.OP, next);
            frames.push(OP_SORT_TYPE, 0, 0, 0);
            frames.push(OP_INFER, term, 0, 1);
        }

        private int constantAt() {
            return family + 1 + at;
        }

        private int memberTerm(int i) {
            return environment.fact(family + 1 + i, TYPE);
        }

        void member() {
            if (at == members) {
                frames.pop();
                return;
            }
            frames.dropVariables();
            for (int i = 0; i < parameters; i++) {
                frames.newVariable(terms.rewrite(FREE_ALL, parser.parameterType(i), i));
            }
            sorts.cut(0);
            rest = terms.rewrite(FREE_ALL, memberTerm(at), parameters);
            frames.set(Frames.OP, OP_ARGUMENT);
        }

        void argument() {
            if (terms.kind(rest) == PI) {
                sortOf(OP_ARGUMENT_TESTED, terms.left(rest));
                return;
            }
            if (!endsInFamily(rest)) {
                meter.fail(FAULT_FAMILY);
            }
            environment.fix(constantAt(), OWNER, family);
            environment.fix(constantAt(), ARGUMENTS, sorts.size());
            if (members == 1 && isDetermined()) {
                environment.fix(family, LARGE, 1);
            }
            frames.dropVariables();
            sortOf(OP_MEMBER_TYPED, parser.overParameters(memberTerm(at)));
        }

        void argumentTested() {
            int type = terms.left(rest);
            int typeSort = frames.result();
            if (sort != 0 && typeSort > sort) {
                meter.fail(FAULT_UNIVERSE);
            }
            if (terms.has(type, CONST, family)) {
                if (!isRecursive(type)) {
                    meter.fail(FAULT_FAMILY);
                }
                int known = environment.fact(constantAt(), RECURSIVE);
                environment.fix(constantAt(), RECURSIVE, known + 1);
            }
            sorts.push(typeSort);
            int variable = terms.make(FREE, frames.newVariable(type), 0);
            rest = terms.rewrite(OPEN, terms.right(rest), variable);
            frames.set(Frames.OP, OP_ARGUMENT);
        }

        void memberTyped() {
            at++;
            frames.set(Frames.OP, OP_MEMBER);
        }

        private boolean isRecursive(int type) {
            int end = type;
            for (int turn = 0; turn < MOST_SIZE && terms.kind(end) == PI; turn++) {
                if (terms.has(terms.left(end), CONST, family)) {
                    return false;
                }
                end = terms.right(end);
            }
            return endsInFamily(end);
        }

        /** I applied to the PARAMETERS and TERMS without I, as many as there are INDICES. */
        private boolean endsInFamily(int term) {
            int head = terms.head(term);
            int number = parameters + indices;
            if (terms.kind(head) != CONST || terms.left(head) != family
                    || terms.behind(term) != number) {
                return false;
            }
            for (int i = 0; i < number; i++) {
                int given = terms.fromLast(term, number - 1 - i);
                boolean fits = i < parameters
                        ? terms.kind(given) == FREE && terms.left(given) == i
                        : !terms.has(given, CONST, family);
                if (!fits) {
                    return false;
                }
            }
            return true;
        }

        /** Whether each ARGUMENT is a proof or just one of the TERMS for INDICES at the end. */
        private boolean isDetermined() {
            for (int i = 0; i < sorts.size(); i++) {
                if (sorts.at(i) != 0 && !isIndex(terms.make(FREE, parameters + i, 0))) {
                    return false;
                }
            }
            return true;
        }

        private boolean isIndex(int variable) {
            for (int i = 0; i < indices; i++) {
                if (terms.fromLast(rest, i) == variable) {
                    return true;
                }
            }
            return false;
        }

        /** Makes what the new CONSTANTS keep, once the TERMS of their tests are forgotten. */
        void build() {
            payOpenings();
            terms.release(parser.nodes());
            buildMotive();
            minors.cut(0);
            for (int i = 0; i < members; i++) {
                minors.push(minor(i));
            }
            int sizes = environment.sizes() + terms.size(environment.fact(family, TYPE));
            int type = recursorType();
            sizes += terms.size(type);
            environment.fix(family, ELIMINATION, type);
            for (int i = 0; i < members; i++) {
                int rule = rule(i);
                int whole = parser.overParameters(memberTerm(i));
                sizes += terms.size(rule) + terms.size(whole);
                if (sizes > MOST_SIZES) {
                    meter.fail(TOO_GREAT);
                }
                environment.fix(family + 1 + i, TYPE, whole);
                environment.fix(family + 1 + i, ELIMINATION, rule);
            }
            if (sizes > MOST_SIZES) {
                meter.fail(TOO_GREAT);
            }
            environment.addSizes(sizes - environment.sizes());
        }

        /** The recursor's type asks each ARGUMENT's PI to be OPENED; a VARIABLE keeps the SIZE. */
        private void payOpenings() {
            for (int i = 0; i < members; i++) {
                int term = memberTerm(i);
                for (int turn = 0; turn < MOST_SIZE && terms.kind(term) == PI; turn++) {
                    term = terms.right(term);
                    meter.charge(terms.size(term));
                }
            }
        }

        /** The VARIABLE of a level among depth binders. */
        private int variable(int level, int depth) {
            return terms.make(VAR, depth - 1 - level, 0);
        }

        private int applied(int head, int firstLevel, int number, int depth) {
            int made = head;
            for (int i = 0; i < number; i++) {
                int variable = terms.make(VAR, depth - 1 - firstLevel - i, 0);
                made = terms.make(APP, made, variable);
            }
            return made;
        }

        /** The head applied to the TERMS for INDICES of a TERM that ends in the family. */
        private int withIndices(int head, int term, int lift) {
            int made = head;
            for (int i = indices - 1; i >= 0; i--) {
                int index = terms.rewrite(LIFT, terms.fromLast(term, i), lift);
                made = terms.make(APP, made, index);
            }
            return made;
        }

        private int bound(int binder, Row types, int body) {
            int made = body;
            for (int i = types.size() - 1; i >= 0; i--) {
                made = terms.make(binder, types.at(i), made);
            }
            return made;
        }

        /** Takes the PI of a TERM apart: their types come to the row, the end is the answer. */
        private int split(int term, Row types) {
            int end = term;
            types.cut(0);
            for (int turn = 0; turn < MOST_SIZE && terms.kind(end) == PI; turn++) {
                types.push(terms.left(end));
                end = terms.right(end);
            }
            return end;
        }

        private void buildMotive() {
            int depth = parameters + indices;
            split(parser.type(), domains);
            int own = terms.make(CONST, family, 0);
            int major = applied(own, 0, depth, depth);
            motive = bound(PI, domains, terms.make(PI, major, terms.make(SORT, ANY_SORT, 0)));
        }

        private int minor(int i) {
            int base = parameters + 1 + i;
            int end = split(terms.rewrite(LIFT, memberTerm(i), 1 + i), domains);
            int arguments = domains.size();
            hypotheses.cut(0);
            for (int j = 0; j < arguments; j++) {
                if (terms.has(domains.at(j), CONST, family)) {
                    int deep = base + arguments + hypotheses.size();
                    int type = terms.rewrite(LIFT, domains.at(j), deep - base - j);
                    hypotheses.push(hypothesis(PI, type, base + j, deep));
                }
            }
            int depth = base + arguments + hypotheses.size();
            int made = terms.make(CONST, family + 1 + i, 0);
            made = applied(applied(made, 0, parameters, depth), base, arguments, depth);
            int conclusion = withIndices(variable(parameters, depth), end, hypotheses.size());
            conclusion = terms.make(APP, conclusion, made);
            return bound(PI, domains, bound(PI, hypotheses, conclusion));
        }

        /**
         * What a RECURSIVE ARGUMENT of that level adds among depth binders: with PI the type of
         * its hypothesis, with LAM the recursor's call.
         */
        private int hypothesis(int binder, int type, int level, int depth) {
            int end = split(type, within);
            int inner = depth + within.size();
            int head = binder == PI
                    ? variable(parameters, inner)
                    : applied(terms.make(REC, family, ANY_SORT), 0, parameters + 1 + members, inner);
            int argument = applied(variable(level, inner), depth, within.size(), inner);
            for (int i = indices - 1; i >= 0; i--) {
                head = terms.make(APP, head, terms.fromLast(end, i));
            }
            return bound(binder, within, terms.make(APP, head, argument));
        }

        private int recursorType() {
            int base = parameters + 1 + members;
            int depth = base + indices;
            split(terms.rewrite(LIFT, parser.type(), 1 + members), domains);
            int own = terms.make(CONST, family, 0);
            int major = applied(applied(own, 0, parameters, depth), base, indices, depth);
            int answer = applied(variable(parameters, depth + 1), base, indices + 1, depth + 1);
            int made = bound(PI, domains, terms.make(PI, major, answer));
            made = terms.make(PI, motive, bound(PI, minors, made));
            return parser.overParameters(made);
        }

        private int rule(int i) {
            int base = parameters + 1 + members;
            split(terms.rewrite(LIFT, memberTerm(i), 1 + members), domains);
            int arguments = domains.size();
            int depth = base + arguments;
            int made = applied(variable(parameters + 1 + i, depth), base, arguments, depth);
            for (int j = 0; j < arguments; j++) {
                if (terms.has(domains.at(j), CONST, family)) {
                    int type = terms.rewrite(LIFT, domains.at(j), arguments - j);
                    made = terms.make(APP, made, hypothesis(LAM, type, base + j, depth));
                }
            }
            made = terms.make(LAM, motive, bound(LAM, minors, bound(LAM, domains, made)));
            for (int j = parameters - 1; j >= 0; j--) {
                made = terms.make(LAM, parser.parameterType(j), made);
            }
            return made;
        }
    }

    /** Writes TERMS to OUT; what is still to come waits in a row, the next on top. */
    private static final class Printer {
        private static final int ANYWHERE = 0;
        private static final int BEFORE = 1;
        private static final int BEHIND = 2;
        private static final int WIDTH = 3;
        // Pieces of text in the place of a TERM.
        private static final int CLOSING = -1;
        private static final int BLANK = -2;
        private static final int TO = -3;
        private static final int FORALL_BODY = -4;
        private static final int FUN_BODY = -5;
        private static final int LET_IS = -6;
        private static final int LET_IN = -7;

        private final Row shown;
        private final Terms terms;
        private final Environment environment;
        private final Row todo;

        Printer(Row shown, Terms terms, Environment environment) {
            this.shown = shown;
            this.terms = terms;
            this.environment = environment;
            todo = new Row(32 * WIDTH, MOST_CELLS);
        }

        void printName(int constant) {
            shown.cut(0);
            name(constant);
        }

        /** The sort stands where a recursor's type leaves it open. */
        void print(int term, int sort) {
            shown.cut(0);
            todo.cut(0);
            later(term, 0, ANYWHERE);
            for (int turn = 0; turn < MOST_TURNS && todo.size() > 0; turn++) {
                int position = todo.pop();
                int depth = todo.pop();
                int item = todo.pop();
                if (item < 0) {
                    piece(item);
                } else if (needsBrackets(terms.kind(item), position)) {
                    shown.push('(');
                    later(CLOSING, 0, 0);
                    later(item, depth, ANYWHERE);
                } else {
                    write(item, depth, sort);
                }
            }
        }

        private void later(int item, int depth, int position) {
            todo.push(item);
            todo.push(depth);
            todo.push(position);
        }

        private static boolean needsBrackets(int kind, int position) {
            return position == BEHIND && kind >= APP || position == BEFORE && kind >= PI;
        }

        private void text(String text) {
            for (int i = 0; i < text.length(); i++) {
                shown.push(text.charAt(i));
            }
        }

        private void number(int number) {
            int unit = 1;
            while (unit <= number / 10) {
                unit *= 10;
            }
            for (; unit > 0; unit /= 10) {
                shown.push('0' + number / unit % 10);
            }
        }

        private void name(int constant) {
            for (int i = 0; i < environment.nameLength(constant); i++) {
                shown.push(environment.nameByte(constant, i));
            }
        }

        private void sort(int sort) {
            if (sort == 0) {
                text("Prop");
            } else {
                text("Type ");
                number(sort - 1);
            }
        }

        private void piece(int item) {
            switch (item) {
                case CLOSING: text(")"); break;
                case BLANK: text(" "); break;
                case TO: text(" -> "); break;
                case FORALL_BODY: text("), "); break;
                case FUN_BODY: text(") => "); break;
                case LET_IS: text(" := "); break;
                default: text(" in "); break;
            }
        }

        private void write(int term, int depth, int sort) {
            int left = terms.left(term);
            switch (terms.kind(term)) {
                case VAR:
                    shown.push('x');
                    number(depth - 1 - left);
                    break;
                case SORT: sort(left == ANY_SORT ? sort : left); break;
                case CONST: name(left); break;
                case REC:
                    text("rec ");
                    name(left);
                    shown.push(' ');
                    sort(terms.right(term));
                    break;
                case APP:
                    later(terms.right(term), depth, BEHIND);
                    later(BLANK, 0, 0);
                    later(left, depth, BEFORE);
                    break;
                case LET: writeLet(term, depth); break;
                default: writeBinder(term, depth); break;
            }
        }

        private void writeBinder(int term, int depth) {
            boolean product = terms.kind(term) == PI;
            int body = terms.right(term);
            later(body, depth + 1, ANYWHERE);
            if (product && !terms.has(body, VAR, 0)) {
                later(TO, 0, 0);
                later(terms.left(term), depth, BEFORE);
                return;
            }
            text(product ? "forall (x" : "fun (x");
            number(depth);
            text(" : ");
            later(product ? FORALL_BODY : FUN_BODY, 0, 0);
            later(terms.left(term), depth, ANYWHERE);
        }

        private void writeLet(int term, int depth) {
            int pair = terms.right(term);
            text("let x");
            number(depth);
            text(" : ");
            later(terms.right(pair), depth + 1, ANYWHERE);
            later(LET_IN, 0, 0);
            later(terms.left(pair), depth, ANYWHERE);
            later(LET_IS, 0, 0);
            later(terms.left(term), depth, ANYWHERE);
        }
    }
}
