/** A small language: terms, their types, passes, orders, a machine and an interpreter. */
public final class Selfkindle {
    public static final int NONE = -1;
    public static final int GOING = 0, NUMBER = 1, FUNCTION = 2, PAIR_OF = 3, RAISED = 4, TIRED = 5;
    public static final int NUM = 0, GET = 1, FN = 2, CALL = 3, RETURN = 4, BIND = 5, UNBIND = 6, REC = 7, TWO = 8, IF = 9, ELSE = 10, PAIR = 11, HALF = 12, RAISE = 13, TRY = 14, END = 15;
    public static final int FOLD = 1, INLINE = 2, DROP = 4, BETA = 8;
    public static final int INT = 0, ARROW = 1, BOTH = 2, VARIABLE = 10;

    private static final int PILE = 20;
    private static final int PARTS = 60;
    private static final int NAMES = 10;
    private static final int SIGNS = 4;
    private static final int PASSES = 15;
    private static final int STEPS = 2000;
    private static final int FACTS_OF_ORDER = 3;
    private static final int FACTS_OF_MACHINE = 6;
    private static final int UNBOUND = 1;
    private static final int UNTYPED = 2;

    private final Term pile;
    private int height;
    private final Term told;
    private final Term current;
    private int wrong;
    private final Rewriter rewriter;
    private final Types types;
    private final Code code;
    private final Machine runner;
    private Interpreter interpreter;
    private boolean isInterpreted;

    public Selfkindle() {
        pile = new Term(PILE * PARTS);
        told = new Term(PARTS);
        current = new Term(PARTS);
        wrong = NONE;
        rewriter = new Rewriter();
        types = new Types();
        code = new Code();
        runner = new Machine(code);
    }

    // ---- terms

    public int number(long number) throws IllegalStateException {
        return putLeaf(Term.A_NUMBER, NONE, number);
    }

    public int name(int name) throws IndexOutOfBoundsException, IllegalStateException {
        checkName(name);
        return putLeaf(Term.A_NAME, name, 0L);
    }

    public int function(int name) throws IndexOutOfBoundsException, IllegalStateException {
        checkName(name);
        return join(Term.A_FUNCTION, name, 0);
    }

    public int call() throws IllegalStateException {
        return join(Term.A_CALL, NONE, 0);
    }

    public int two(int sign) throws IllegalArgumentException, IllegalStateException {
        if (sign < 0 || sign >= SIGNS) {
            throw new IllegalArgumentException();
        }
        return join(Term.A_TWO, NONE, sign);
    }

    public int choose() throws IllegalStateException {
        return join(Term.AN_IF, NONE, 0);
    }

    public int let(int name) throws IndexOutOfBoundsException, IllegalStateException {
        checkName(name);
        return join(Term.A_LET, name, 0);
    }

    public int rec(int f, int x) throws IndexOutOfBoundsException, IllegalStateException {
        checkName(f);
        checkName(x);
        return join(Term.A_REC, f, x);
    }

    public int pair() throws IllegalStateException {
        return join(Term.A_PAIR, NONE, 0);
    }

    public int half(boolean isSecond) throws IllegalStateException {
        return join(Term.A_HALF, NONE, isSecond ? 1 : 0);
    }

    public int raise() throws IllegalStateException {
        return join(Term.A_RAISE, NONE, 0);
    }

    public int handle(int name) throws IndexOutOfBoundsException, IllegalStateException {
        checkName(name);
        return join(Term.A_HANDLER, name, 0);
    }

    public int program() throws IllegalStateException {
        if (height == 0) {
            throw new IllegalStateException();
        }
        int top = pile.count - 1;
        told.clear();
        told.addTerm(pile, top);
        current.clear();
        current.addTerm(pile, top);
        pile.count = pile.startOf(top);
        height--;
        isInterpreted = false;
        if (!told.findBinders()) {
            wrong = UNBOUND;
        } else if (!types.infer(told)) {
            wrong = UNTYPED;
        } else {
            wrong = 0;
            current.findBinders();
            begin();
        }
        return told.count;
    }

    // ---- types

    public int fault() throws IllegalStateException {
        if (wrong == NONE) {
            throw new IllegalStateException();
        }
        return wrong;
    }

    public int type(int place) throws IndexOutOfBoundsException, IllegalStateException {
        if (place < 0) {
            throw new IndexOutOfBoundsException();
        }
        checkProgram();
        return types.partOfAnswer(place);
    }

    // ---- passes, orders

    public int optimise(int passes) throws IllegalArgumentException, IllegalStateException {
        if (passes < 0 || passes > PASSES) {
            throw new IllegalArgumentException();
        }
        checkProgram();
        int made = 0;
        for (int pass = FOLD; pass <= BETA; pass <<= 1) {
            if ((passes & pass) != 0) {
                made += rewriter.walk(pass, current);
            }
        }
        current.findBinders();
        if (made > 0) {
            types.infer(current);
        }
        begin();
        return made;
    }

    public int size() {
        return current.count;
    }

    public int orders() throws IllegalStateException {
        checkProgram();
        return code.count;
    }

    public long order(int place, int what) throws IndexOutOfBoundsException, IllegalArgumentException {
        checkOrder(place);
        if (what < 0 || what >= FACTS_OF_ORDER) {
            throw new IllegalArgumentException();
        }
        if (what == 0) {
            return code.whatAt(place);
        }
        return what == 1 ? code.numberAt(place) : code.timesAt(place);
    }

    public boolean stop(int place, boolean is) throws IndexOutOfBoundsException {
        checkOrder(place);
        boolean did = code.isStop(place);
        code.setStop(place, is);
        return did;
    }

    // ---- the machine

    public int go(int steps) throws IllegalArgumentException, IllegalStateException {
        if (steps < 1 || steps > STEPS) {
            throw new IllegalArgumentException();
        }
        checkProgram();
        if (runner.outcome != GOING) {
            throw new IllegalStateException();
        }
        runner.run(steps);
        return runner.outcome;
    }

    public void again() throws IllegalStateException {
        checkProgram();
        runner.reset();
    }

    public int state() throws IllegalStateException {
        checkProgram();
        return runner.outcome;
    }

    public long value() throws IllegalStateException {
        checkProgram();
        if (runner.outcome != NUMBER && runner.outcome != RAISED) {
            throw new IllegalStateException();
        }
        return runner.topNumber();
    }

    public int machine(int what) throws IllegalArgumentException, IllegalStateException {
        if (what < 0 || what >= FACTS_OF_MACHINE) {
            throw new IllegalArgumentException();
        }
        checkProgram();
        return runner.tell(what);
    }

    // ---- the interpreter

    public int stateAnew() throws IllegalStateException {
        checkProgram();
        return interpreted().outcome;
    }

    public long valueAnew() throws IllegalStateException {
        checkProgram();
        Interpreter done = interpreted();
        if (done.outcome != NUMBER && done.outcome != RAISED) {
            throw new IllegalStateException();
        }
        return done.answer;
    }

    // ---- what several calls of the face need

    private int putLeaf(int kind, int name, long number) {
        if (height >= PILE) {
            throw new IllegalStateException();
        }
        pile.add(kind, name, 0, number);
        height++;
        return height;
    }

    private int join(int kind, int name, int other) {
        int parts = Term.partsOf(kind);
        if (height < parts || pile.sizeOfLast(parts) >= PARTS) {
            throw new IllegalStateException();
        }
        pile.add(kind, name, other, 0L);
        height += 1 - parts;
        return height;
    }

    private void begin() {
        code.compile(current);
        runner.reset();
    }

    /** The interpreter's rows are the largest ones, so an object that never asks for it goes without. */
    private Interpreter interpreted() {
        if (interpreter == null) {
            interpreter = new Interpreter(told);
        }
        if (!isInterpreted) {
            interpreter.interpret();
            isInterpreted = true;
        }
        return interpreter;
    }

    private static void checkName(int name) {
        if (name < 0 || name >= NAMES) {
            throw new IndexOutOfBoundsException();
        }
    }

    private void checkProgram() {
        if (wrong != 0) {
            throw new IllegalStateException();
        }
    }

    private void checkOrder(int place) {
        if (wrong != 0 || place < 0 || place >= code.count) {
            throw new IndexOutOfBoundsException();
        }
    }

    private static long combine(int sign, long first, long second) {
        switch (sign) {
            case 0:
                return first + second;
            case 1:
                return first - second;
            case 2:
                return first * second;
            default:
                return first < second ? 1L : 0L;
        }
    }

    /**
     * A row of terms, each part behind the parts that it has itself: so telling only adds at the end,
     * and a term can be moved as it stands. A term is named by where it ends.
     */
    private static final class Term {
        static final int A_NUMBER = 0, A_NAME = 1, A_FUNCTION = 2, A_CALL = 3, A_TWO = 4, AN_IF = 5, A_LET = 6, A_REC = 7, A_PAIR = 8, A_HALF = 9, A_RAISE = 10, A_HANDLER = 11;
        private static final int[] PARTS_OF = {0, 0, 1, 2, 2, 3, 2, 2, 2, 1, 1, 2};

        private final int[] kinds;
        private final int[] names;
        private final int[] others;
        private final long[] numbers;
        private final int[] sizes;
        private final int[] binders;
        private final int[] distances;
        int count;

        Term(int room) {
            int rows = room > 0 ? room : 1;
            kinds = new int[rows];
            names = new int[rows];
            others = new int[rows];
            numbers = new long[rows];
            sizes = new int[rows];
            binders = new int[rows];
            distances = new int[rows];
        }

        static int partsOf(int kind) {
            return kind >= 0 && kind < PARTS_OF.length ? PARTS_OF[kind] : 0;
        }

        void clear() {
            count = 0;
        }

        /** Adds a part that takes the last terms of the row as its own parts. */
        void add(int kind, int name, int other, long number) {
            int parts = sizeOfLast(partsOf(kind));
            if (count < 0 || count >= kinds.length) {
                return;
            }
            kinds[count] = kind;
            names[count] = name;
            others[count] = other;
            numbers[count] = number;
            sizes[count] = 1 + parts;
            binders[count] = NONE;
            distances[count] = NONE;
            count++;
        }

        void addPart(Term from, int i) {
            if (from.has(i)) {
                add(from.kinds[i], from.names[i], from.others[i], from.numbers[i]);
            }
        }

        void addTerm(Term from, int end) {
            for (int i = from.startOf(end); i <= end; i++) {
                addPart(from, i);
            }
        }

        int sizeOfLast(int terms) {
            int start = count;
            for (int i = 0; i < terms && start > 0; i++) {
                start -= sizes[start - 1];
            }
            return count - start;
        }

        boolean has(int i) {
            return i >= 0 && i < count && i < kinds.length;
        }

        int kindAt(int i) {
            return has(i) ? kinds[i] : NONE;
        }

        int nameAt(int i) {
            return has(i) ? names[i] : NONE;
        }

        int otherAt(int i) {
            return has(i) ? others[i] : 0;
        }

        long numberAt(int i) {
            return has(i) ? numbers[i] : 0L;
        }

        int binderAt(int i) {
            return has(i) ? binders[i] : NONE;
        }

        int distanceAt(int i) {
            return has(i) ? distances[i] : NONE;
        }

        int startOf(int end) {
            return has(end) ? end - sizes[end] + 1 : end;
        }

        boolean isSimple(int i) {
            int kind = kindAt(i);
            return kind == A_NUMBER || kind == A_NAME || kind == A_FUNCTION;
        }

        /** Where a part of the term that ends at i ends; which is from 0. */
        int partAt(int i, int which) {
            int at = i - 1;
            int parts = has(i) ? partsOf(kinds[i]) : 0;
            for (int last = parts - 1; last > which && has(at); last--) {
                at -= sizes[at];
            }
            return at;
        }

        /** Finds for each name what binds it, and how many are bound nearer; tells whether all are bound. */
        boolean findBinders() {
            boolean isAll = true;
            for (int i = 0; i < count; i++) {
                if (kindAt(i) == A_NAME) {
                    binders[i] = binder(i, count - 1);
                    distances[i] = distance(i, binders[i]);
                    isAll = isAll && binders[i] != NONE;
                }
            }
            return isAll;
        }

        /** Where the term ends that binds the name at leaf, if it is in the one that ends at end; otherwise NONE. */
        private int binder(int leaf, int end) {
            int name = nameAt(leaf);
            for (int i = leaf + 1; i <= end && has(i); i++) {
                int bound = bindsAt(i, leaf);
                if (bound > 0 && names[i] == name || bound > 1 && others[i] == name) {
                    return i;
                }
            }
            return NONE;
        }

        private int distance(int leaf, int binder) {
            int nearer = 0;
            for (int i = leaf + 1; i < binder; i++) {
                nearer += bindsAt(i, leaf);
            }
            boolean isBehindX = bindsAt(binder, leaf) > 1 && otherAt(binder) != nameAt(leaf);
            return isBehindX ? nearer + 1 : nearer;
        }

        /** How many names the term that ends at i binds for the part at leaf: 2 in the body of a rec. */
        private int bindsAt(int i, int leaf) {
            if (i <= 0 || i >= count || i - sizes[i] >= leaf) {
                return 0;
            }
            boolean isInLast = leaf >= i - sizes[i - 1];
            switch (kinds[i]) {
                case A_FUNCTION:
                    return 1;
                case A_LET:
                case A_HANDLER:
                    return isInLast ? 1 : 0;
                case A_REC:
                    return isInLast ? 1 : 2;
                default:
                    return 0;
            }
        }

        /** Whether a name is in the term that ends at end. */
        boolean isIn(int name, int end) {
            for (int i = startOf(end); i <= end; i++) {
                if (kindAt(i) == A_NAME && nameAt(i) == name && binder(i, end) == NONE) {
                    return true;
                }
            }
            return false;
        }

        /** Whether some part of the term that ends at end binds a name. */
        boolean isBoundIn(int name, int end) {
            for (int i = startOf(end); i <= end; i++) {
                int kind = kindAt(i);
                boolean isBinder = kind == A_FUNCTION || kind == A_LET || kind == A_REC || kind == A_HANDLER;
                if (isBinder && nameAt(i) == name || kind == A_REC && otherAt(i) == name) {
                    return true;
                }
            }
            return false;
        }

        /** Puts the number or name at leaf in place of a name in the term that ends at end. */
        void replace(int name, int end, int leaf) {
            for (int i = startOf(end); i <= end; i++) {
                if (kindAt(i) == A_NAME && nameAt(i) == name && binder(i, end) == NONE) {
                    copyPart(leaf, i);
                }
            }
        }

        /** Lets the term that ends at chosen stand in place of all that begins at start. */
        void keep(int chosen, int start) {
            int first = startOf(chosen);
            int length = chosen - first + 1;
            for (int i = 0; i < length; i++) {
                copyPart(first + i, start + i);
            }
            count = start + length;
        }

        private void copyPart(int from, int to) {
            if (has(from) && has(to)) {
                kinds[to] = kinds[from];
                names[to] = names[from];
                others[to] = others[from];
                numbers[to] = numbers[from];
                sizes[to] = sizes[from];
            }
        }
    }

    /** The passes: each tells a term anew, part by part, and looks at every part when it has been told. */
    private static final class Rewriter {
        private final Term made;
        private final Term spare;

        Rewriter() {
            made = new Term(PARTS);
            spare = new Term(PARTS);
        }

        /** Lets one pass go through a term; answers how many of its parts were made others. */
        int walk(int pass, Term term) {
            int others = 0;
            made.clear();
            for (int i = 0; i < term.count; i++) {
                made.addPart(term, i);
                int top = made.count - 1;
                boolean isOther;
                switch (pass) {
                    case FOLD:
                        isOther = folds(top);
                        break;
                    case INLINE:
                        isOther = inlines(top);
                        break;
                    case DROP:
                        isOther = drops(top);
                        break;
                    default:
                        isOther = reduces(top);
                        break;
                }
                others += isOther ? 1 : 0;
            }
            term.clear();
            term.addTerm(made, made.count - 1);
            return others;
        }

        private boolean folds(int top) {
            switch (made.kindAt(top)) {
                case Term.A_TWO:
                    return foldsTwo(top);
                case Term.AN_IF:
                    return foldsIf(top);
                case Term.A_HALF:
                    return foldsHalf(top);
                default:
                    return false;
            }
        }

        private boolean foldsTwo(int top) {
            int first = made.partAt(top, 0);
            int second = made.partAt(top, 1);
            if (made.kindAt(first) != Term.A_NUMBER || made.kindAt(second) != Term.A_NUMBER) {
                return false;
            }
            long number = combine(made.otherAt(top), made.numberAt(first), made.numberAt(second));
            made.count = made.startOf(top);
            made.add(Term.A_NUMBER, NONE, 0, number);
            return true;
        }

        private boolean foldsIf(int top) {
            int first = made.partAt(top, 0);
            if (made.kindAt(first) != Term.A_NUMBER) {
                return false;
            }
            made.keep(made.partAt(top, made.numberAt(first) != 0L ? 1 : 2), made.startOf(top));
            return true;
        }

        private boolean foldsHalf(int top) {
            int pair = made.partAt(top, 0);
            if (made.kindAt(pair) != Term.A_PAIR) {
                return false;
            }
            if (!made.isSimple(made.partAt(pair, 0)) || !made.isSimple(made.partAt(pair, 1))) {
                return false;
            }
            made.keep(made.partAt(pair, made.otherAt(top)), made.startOf(top));
            return true;
        }

        private boolean inlines(int top) {
            if (made.kindAt(top) != Term.A_LET) {
                return false;
            }
            int value = made.partAt(top, 0);
            int body = made.partAt(top, 1);
            int name = made.nameAt(top);
            if (!isNumber(value) && !isNameToInline(value, name, body)) {
                return false;
            }
            made.replace(name, body, value);
            made.keep(body, made.startOf(top));
            return true;
        }

        private boolean isNumber(int i) {
            return made.kindAt(i) == Term.A_NUMBER;
        }

        private boolean isNameToInline(int value, int own, int body) {
            if (made.kindAt(value) != Term.A_NAME) {
                return false;
            }
            int name = made.nameAt(value);
            return name != own && !made.isBoundIn(name, body);
        }

        private boolean drops(int top) {
            int kind = made.kindAt(top);
            if (kind != Term.A_REC && kind != Term.A_LET) {
                return false;
            }
            if (kind == Term.A_LET && !made.isSimple(made.partAt(top, 0))) {
                return false;
            }
            int rest = made.partAt(top, 1);
            if (made.isIn(made.nameAt(top), rest)) {
                return false;
            }
            made.keep(rest, made.startOf(top));
            return true;
        }

        private boolean reduces(int top) {
            if (made.kindAt(top) != Term.A_CALL) {
                return false;
            }
            int called = made.partAt(top, 0);
            int argument = made.partAt(top, 1);
            if (made.kindAt(called) != Term.A_FUNCTION || !made.isSimple(argument)) {
                return false;
            }
            spare.clear();
            spare.addTerm(made, argument);
            spare.addTerm(made, made.partAt(called, 0));
            spare.add(Term.A_LET, made.nameAt(called), 0, 0L);
            made.count = made.startOf(top);
            made.addTerm(spare, spare.count - 1);
            return true;
        }
    }

    /**
     * The types of a term's parts, found from the inside outwards. A variable has a level, by how many
     * values of lets (and bodies of recs) it is in: one of a deeper level than a let is in no type of a
     * name around that let. A walk through a type ends at MOST: every type that is walked through is
     * that of a part in the end, or in one, and can only grow, so it is too large then.
     */
    private static final class Types {
        private static final int MOST = 200;
        private static final int ROOM = PARTS * (MOST + 1) + 1;
        private static final int INTEGER = 0;

        private final int[] heads;
        private final int[] lefts;
        private final int[] rights;
        private final int[] copies;
        private int count;
        private final int[] row;
        private final int[] work;
        private final int[] pairs;
        private final int[] typeOfPart;
        private final int[] typeOfName;
        private final int[] levels;
        private final int[] parents;
        private final int[] answer;
        private int answered;
        private boolean isWrong;

        Types() {
            heads = new int[ROOM];
            lefts = new int[ROOM];
            rights = new int[ROOM];
            copies = new int[ROOM];
            row = new int[MOST];
            work = new int[MOST + 2];
            pairs = new int[2 * MOST + 4];
            typeOfPart = new int[PARTS];
            typeOfName = new int[PARTS];
            levels = new int[PARTS];
            parents = new int[PARTS];
            answer = new int[MOST];
        }

        int partOfAnswer(int place) {
            return place >= 0 && place < answered && place < MOST ? answer[place] : NONE;
        }

        /** Finds the type of a term, all of whose names are bound; tells whether it has one. */
        boolean infer(Term term) {
            count = 0;
            answered = 0;
            isWrong = term.count <= 0 || term.count > PARTS;
            add(INT, NONE, NONE);
            if (!isWrong) {
                prepare(term);
            }
            for (int i = 0; i < term.count && !isWrong; i++) {
                typeOfPart[i] = typeFrom(term, i);
                closeBodyOfRec(term, i);
            }
            for (int i = 0; i < term.count && !isWrong; i++) {
                isWrong = flatten(typeOfPart[i]) > MOST;
            }
            if (!isWrong) {
                writeAnswer(typeOfPart[term.count - 1]);
            }
            return !isWrong;
        }

        private void prepare(Term term) {
            levels[term.count - 1] = 0;
            parents[term.count - 1] = NONE;
            for (int i = term.count - 1; i >= 0; i--) {
                int kind = term.kindAt(i);
                boolean isDeeper = kind == Term.A_LET || kind == Term.A_REC;
                for (int which = 0; which < Term.partsOf(kind); which++) {
                    int part = term.partAt(i, which);
                    if (part >= 0 && part < i) {
                        levels[part] = levels[i] + (isDeeper && which == 0 ? 1 : 0);
                        parents[part] = i;
                    }
                }
                typeOfName[i] = typeOfBound(kind, levels[i]);
            }
        }

        private int typeOfBound(int kind, int level) {
            if (kind == Term.A_FUNCTION) {
                return addVariable(level);
            }
            if (kind == Term.A_REC) {
                int from = addVariable(level + 1);
                return add(ARROW, from, addVariable(level + 1));
            }
            return INTEGER;
        }

        private int typeFrom(Term term, int i) {
            int first = typeAt(term.partAt(i, 0));
            int second = typeAt(term.partAt(i, 1));
            int fresh = addVariable(levels[i]);
            switch (term.kindAt(i)) {
                case Term.A_NAME:
                    return typeOfNamed(term, i);
                case Term.A_FUNCTION:
                    return add(ARROW, typeOfName[i], first);
                case Term.A_CALL:
                    unify(first, add(ARROW, second, fresh));
                    return fresh;
                case Term.A_TWO:
                    unify(first, INTEGER);
                    unify(second, INTEGER);
                    return INTEGER;
                case Term.AN_IF:
                    unify(first, INTEGER);
                    unify(second, typeAt(term.partAt(i, 2)));
                    return second;
                case Term.A_LET:
                case Term.A_REC:
                    return second;
                case Term.A_PAIR:
                    return add(BOTH, first, second);
                case Term.A_HALF:
                    int other = addVariable(levels[i]);
                    boolean isFirst = term.otherAt(i) == 0;
                    unify(first, add(BOTH, isFirst ? fresh : other, isFirst ? other : fresh));
                    return fresh;
                case Term.A_RAISE:
                    unify(first, INTEGER);
                    return fresh;
                case Term.A_HANDLER:
                    unify(first, second);
                    return first;
                default:
                    return INTEGER;
            }
        }

        private int typeAt(int part) {
            return part >= 0 && part < PARTS ? typeOfPart[part] : INTEGER;
        }

        /** A name of a let, or of a rec in its rest, has other variables at each place. */
        private int typeOfNamed(Term term, int leaf) {
            int binder = term.binderAt(leaf);
            if (binder < 0 || binder >= PARTS) {
                isWrong = true;
                return INTEGER;
            }
            int bound = typeOfName[binder];
            switch (term.kindAt(binder)) {
                case Term.A_LET:
                    return instance(typeAt(term.partAt(binder, 0)), levels[binder], levels[leaf]);
                case Term.A_REC:
                    if (leaf > term.partAt(binder, 0)) {
                        return instance(bound, levels[binder], levels[leaf]);
                    }
                    return term.nameAt(leaf) == term.otherAt(binder) ? lefts[bound] : bound;
                default:
                    return bound;
            }
        }

        /** What the body of a rec has must be known ahead of the rest, in which f has other types. */
        private void closeBodyOfRec(Term term, int i) {
            int parent = parents[i];
            if (term.kindAt(parent) == Term.A_REC && term.partAt(parent, 0) == i) {
                unify(rights[typeOfName[parent]], typeOfPart[i]);
            }
        }

        private int add(int head, int left, int right) {
            if (count < 0 || count >= ROOM) {
                isWrong = true;
                return INTEGER;
            }
            heads[count] = head;
            lefts[count] = left;
            rights[count] = right;
            copies[count] = NONE;
            count++;
            return count - 1;
        }

        /** A variable has as its left what it stands for by now, as its right its level. */
        private int addVariable(int level) {
            return add(VARIABLE, NONE, level);
        }

        private int resolve(int type) {
            int at = type >= 0 && type < count ? type : INTEGER;
            for (int i = 0; i < count; i++) {
                if (heads[at] != VARIABLE || lefts[at] < 0 || lefts[at] >= count) {
                    return at;
                }
                at = lefts[at];
            }
            return at;
        }

        /** Writes the parts of a type to the row, each ahead of those in it; answers how many, MOST + 1 if too many. */
        private int flatten(int type) {
            int parts = 0;
            int waiting = 1;
            work[0] = type;
            while (waiting > 0) {
                if (parts >= MOST) {
                    return MOST + 1;
                }
                waiting--;
                int at = resolve(work[waiting]);
                row[parts] = at;
                parts++;
                if (heads[at] == ARROW || heads[at] == BOTH) {
                    work[waiting] = rights[at];
                    work[waiting + 1] = lefts[at];
                    waiting += 2;
                }
            }
            return parts;
        }

        /** Each visit is at another part of the type that both become, so too many visits mean too many parts. */
        private void unify(int one, int other) {
            int waiting = 2;
            pairs[0] = one;
            pairs[1] = other;
            for (int visits = 0; waiting > 1 && !isWrong; visits++) {
                waiting -= 2;
                int first = resolve(pairs[waiting]);
                int second = resolve(pairs[waiting + 1]);
                if (visits >= MOST) {
                    isWrong = true;
                } else if (first == second) {
                    continue;
                } else if (heads[first] == VARIABLE) {
                    stand(first, second);
                } else if (heads[second] == VARIABLE) {
                    stand(second, first);
                } else if (heads[first] != heads[second]) {
                    isWrong = true;
                } else if (heads[first] != INT) {
                    pairs[waiting] = rights[first];
                    pairs[waiting + 1] = rights[second];
                    pairs[waiting + 2] = lefts[first];
                    pairs[waiting + 3] = lefts[second];
                    waiting += 4;
                }
            }
        }

        /** Lets a variable stand for a type, whose variables then are in all types that it is in. */
        private void stand(int variable, int type) {
            int parts = flatten(type);
            if (parts > MOST) {
                isWrong = true;
                return;
            }
            for (int i = 0; i < parts; i++) {
                int part = row[i];
                if (part == variable) {
                    isWrong = true;
                    return;
                }
                if (heads[part] == VARIABLE && rights[part] > rights[variable]) {
                    rights[part] = rights[variable];
                }
            }
            lefts[variable] = type;
        }

        /** A copy of a type, with other variables for those whose level is deeper than a general one. */
        private int instance(int type, int general, int level) {
            int parts = flatten(type);
            if (parts > MOST) {
                isWrong = true;
                return INTEGER;
            }
            int begun = count;
            int kept = 0;
            for (int i = parts - 1; i >= 0; i--) {
                int part = row[i];
                if (heads[part] == ARROW || heads[part] == BOTH) {
                    if (kept < 2) {
                        return INTEGER;
                    }
                    work[kept - 2] = add(heads[part], work[kept - 1], work[kept - 2]);
                    kept--;
                } else {
                    work[kept] = heads[part] == VARIABLE && rights[part] > general ? copyOf(part, level, begun) : part;
                    kept++;
                }
            }
            return work[0];
        }

        /** Copies made before this instance was begun are those of others. */
        private int copyOf(int variable, int level, int begun) {
            if (copies[variable] < begun) {
                copies[variable] = add(VARIABLE, NONE, level);
            }
            return copies[variable];
        }

        private void writeAnswer(int type) {
            int parts = flatten(type);
            int variables = 0;
            answered = parts <= MOST ? parts : 0;
            for (int i = 0; i < answered; i++) {
                answer[i] = heads[row[i]];
                if (answer[i] == VARIABLE) {
                    int first = firstInRow(row[i]);
                    answer[i] = first < i ? answer[first] : VARIABLE + variables;
                    variables += first < i ? 0 : 1;
                }
            }
        }

        private int firstInRow(int type) {
            int at = 0;
            while (at < MOST - 1 && row[at] != type) {
                at++;
            }
            return at;
        }
    }

    /** The orders of a term, how often each was done, and at which of them the machine stops. */
    private static final class Code {
        private static final int MOST_A_PART = 4;
        private static final int ROOM = MOST_A_PART * PARTS;

        private final int[] whats;
        private final long[] numbers;
        private final int[] times;
        private final boolean[] stops;
        private final int[] lengths;
        private final int[] places;
        int count;

        Code() {
            whats = new int[ROOM];
            numbers = new long[ROOM];
            times = new int[ROOM];
            stops = new boolean[ROOM];
            lengths = new int[PARTS];
            places = new int[PARTS];
        }

        boolean has(int place) {
            return place >= 0 && place < count && place < ROOM;
        }

        int whatAt(int place) {
            return has(place) ? whats[place] : NUM;
        }

        long numberAt(int place) {
            return has(place) ? numbers[place] : 0L;
        }

        int timesAt(int place) {
            return has(place) ? times[place] : 0;
        }

        boolean isStop(int place) {
            return has(place) && stops[place];
        }

        void setStop(int place, boolean is) {
            if (has(place)) {
                stops[place] = is;
            }
        }

        void countOne(int place) {
            if (has(place)) {
                times[place]++;
            }
        }

        void forgetTimes() {
            for (int i = 0; i < count && i < ROOM; i++) {
                times[i] = 0;
            }
        }

        /** Parts stand ahead of what they are part of, so lengths are known upwards, and places downwards. */
        void compile(Term term) {
            count = 0;
            if (term.count <= 0 || term.count > PARTS) {
                return;
            }
            for (int i = 0; i < term.count; i++) {
                lengths[i] = ownOrders(term.kindAt(i));
                for (int which = 0; which < Term.partsOf(term.kindAt(i)); which++) {
                    lengths[i] += lengthAt(term.partAt(i, which));
                }
            }
            count = lengths[term.count - 1];
            places[term.count - 1] = 0;
            for (int i = term.count - 1; i >= 0; i--) {
                write(term, i, places[i]);
            }
        }

        private static int ownOrders(int kind) {
            switch (kind) {
                case Term.A_FUNCTION:
                case Term.AN_IF:
                case Term.A_LET:
                    return 2;
                case Term.A_REC:
                    return 4;
                case Term.A_HANDLER:
                    return 3;
                default:
                    return 1;
            }
        }

        private int lengthAt(int part) {
            return part >= 0 && part < PARTS ? lengths[part] : 0;
        }

        private void write(Term term, int i, int place) {
            int length = lengthAt(term.partAt(i, 0));
            switch (term.kindAt(i)) {
                case Term.A_NUMBER:
                    put(place, NUM, term.numberAt(i));
                    return;
                case Term.A_NAME:
                    put(place, GET, term.distanceAt(i));
                    return;
                case Term.A_FUNCTION:
                    writeBody(term, i, place, FN);
                    return;
                case Term.A_CALL:
                    writeBoth(term, i, place, CALL);
                    return;
                case Term.A_TWO:
                    writeBoth(term, i, place, TWO);
                    return;
                case Term.A_PAIR:
                    writeBoth(term, i, place, PAIR);
                    return;
                case Term.AN_IF:
                    writeIf(term, i, place);
                    return;
                case Term.A_LET:
                    setPlace(term.partAt(i, 0), place);
                    writeBound(term, i, place + length);
                    return;
                case Term.A_REC:
                    writeBody(term, i, place, REC);
                    writeBound(term, i, place + 2 + length);
                    return;
                case Term.A_HALF:
                    writeBehind(term, i, place, HALF);
                    return;
                case Term.A_RAISE:
                    writeBehind(term, i, place, RAISE);
                    return;
                default:
                    writeHandler(term, i, place);
            }
        }

        private void writeBody(Term term, int i, int place, int what) {
            int body = term.partAt(i, 0);
            put(place, what, lengthAt(body) + 1);
            setPlace(body, place + 1);
            put(place + 1 + lengthAt(body), RETURN, 0L);
        }

        private void writeBound(Term term, int i, int place) {
            int body = term.partAt(i, 1);
            put(place, BIND, 0L);
            setPlace(body, place + 1);
            put(place + 1 + lengthAt(body), UNBIND, 0L);
        }

        private void writeBoth(Term term, int i, int place, int what) {
            int first = term.partAt(i, 0);
            int second = term.partAt(i, 1);
            setPlace(first, place);
            setPlace(second, place + lengthAt(first));
            put(place + lengthAt(first) + lengthAt(second), what, term.otherAt(i));
        }

        private void writeBehind(Term term, int i, int place, int what) {
            int part = term.partAt(i, 0);
            setPlace(part, place);
            put(place + lengthAt(part), what, term.otherAt(i));
        }

        private void writeIf(Term term, int i, int place) {
            int first = term.partAt(i, 0);
            int second = term.partAt(i, 1);
            int third = term.partAt(i, 2);
            int branch = place + lengthAt(first);
            int otherwise = branch + 1 + lengthAt(second);
            setPlace(first, place);
            put(branch, IF, lengthAt(second) + 1);
            setPlace(second, branch + 1);
            put(otherwise, ELSE, lengthAt(third));
            setPlace(third, otherwise + 1);
        }

        private void writeHandler(Term term, int i, int place) {
            int body = term.partAt(i, 0);
            int clause = term.partAt(i, 1);
            int end = place + 1 + lengthAt(body);
            put(place, TRY, lengthAt(body) + 1);
            setPlace(body, place + 1);
            put(end, END, lengthAt(clause) + 1);
            setPlace(clause, end + 1);
            put(end + 1 + lengthAt(clause), UNBIND, 0L);
        }

        private void setPlace(int part, int place) {
            if (part >= 0 && part < PARTS) {
                places[part] = place;
            }
        }

        private void put(int place, int what, long number) {
            if (has(place)) {
                whats[place] = what;
                numbers[place] = number;
                times[place] = 0;
                stops[place] = false;
            }
        }
    }

    /** Values, and chains of bound names, each with how many there are from it on. */
    private static final class Heap {
        private final int room;
        private final int[] kinds;
        private final long[] numbers;
        private final int[] firsts;
        private final int[] seconds;
        private int values;
        private final int[] bound;
        private final int[] outers;
        private final int[] depths;
        private int names;

        Heap(int size) {
            room = size > 0 ? size : 1;
            kinds = new int[room];
            numbers = new long[room];
            firsts = new int[room];
            seconds = new int[room];
            bound = new int[room];
            outers = new int[room];
            depths = new int[room];
        }

        void clear() {
            values = 0;
            names = 0;
        }

        int addNumber(long number) {
            return add(NUMBER, number, NONE, NONE);
        }

        int addPair(int first, int second) {
            return add(PAIR_OF, 0L, first, second);
        }

        /** A function has as its first where its body is, as its second the names around it. */
        int addFunction(int body, int around) {
            return add(FUNCTION, 0L, body, around);
        }

        /** A function that has itself as one more of its names. */
        int addRecursive(int body, int around) {
            int function = add(FUNCTION, 0L, body, around);
            int itself = bind(function, around);
            if (hasValue(function)) {
                seconds[function] = itself;
            }
            return function;
        }

        private int add(int kind, long number, int first, int second) {
            if (values < 0 || values >= room) {
                return NONE;
            }
            kinds[values] = kind;
            numbers[values] = number;
            firsts[values] = first;
            seconds[values] = second;
            values++;
            return values - 1;
        }

        int bind(int value, int around) {
            if (names < 0 || names >= room) {
                return NONE;
            }
            bound[names] = value;
            outers[names] = around;
            depths[names] = around >= 0 && around < names ? depths[around] + 1 : 1;
            names++;
            return names - 1;
        }

        private boolean hasValue(int value) {
            return value >= 0 && value < values;
        }

        private boolean hasName(int name) {
            return name >= 0 && name < names;
        }

        int kindOf(int value) {
            return hasValue(value) ? kinds[value] : NUMBER;
        }

        long numberOf(int value) {
            return hasValue(value) ? numbers[value] : 0L;
        }

        int firstOf(int value) {
            return hasValue(value) ? firsts[value] : NONE;
        }

        int secondOf(int value) {
            return hasValue(value) ? seconds[value] : NONE;
        }

        int outerOf(int name) {
            return hasName(name) ? outers[name] : NONE;
        }

        int depthOf(int name) {
            return hasName(name) ? depths[name] : 0;
        }

        int lookUp(int name, int distance) {
            int at = name;
            for (int i = 0; i < distance && hasName(at); i++) {
                at = outers[at];
            }
            return hasName(at) ? bound[at] : NONE;
        }
    }

    /** The machine that does the orders. Each order makes one value and binds one name at most. */
    private static final class Machine {
        private static final int GOING_ON = 200;

        private final Code code;
        private final Heap heap;
        private final int[] stack;
        private final int[] callPlaces;
        private final int[] callNames;
        private final int[] tryPlaces;
        private final int[] tryHeights;
        private final int[] tryNames;
        private final int[] tryCalls;
        private int height;
        private int names;
        private int calls;
        private int tries;
        private int place;
        private int steps;
        int outcome;

        Machine(Code orders) {
            code = orders;
            heap = new Heap(STEPS);
            stack = new int[STEPS];
            callPlaces = new int[GOING_ON];
            callNames = new int[GOING_ON];
            tryPlaces = new int[GOING_ON];
            tryHeights = new int[GOING_ON];
            tryNames = new int[GOING_ON];
            tryCalls = new int[GOING_ON];
            names = NONE;
        }

        void reset() {
            heap.clear();
            code.forgetTimes();
            height = 0;
            names = NONE;
            calls = 0;
            tries = 0;
            place = 0;
            steps = 0;
            outcome = GOING;
        }

        int tell(int what) {
            switch (what) {
                case 0:
                    return place;
                case 1:
                    return steps;
                case 2:
                    return height;
                case 3:
                    return heap.depthOf(names);
                case 4:
                    return calls;
                default:
                    return tries;
            }
        }

        long topNumber() {
            return heap.numberOf(top());
        }

        void run(int most) {
            for (int i = 0; i < most && outcome == GOING; i++) {
                if (i > 0 && code.isStop(place)) {
                    return;
                }
                step();
            }
        }

        private void step() {
            int what = code.whatAt(place);
            if (steps >= STEPS || (what == CALL || what == TRY) && calls + tries >= GOING_ON) {
                outcome = TIRED;
                return;
            }
            if (what == RAISE && tries == 0) {
                outcome = RAISED;
                return;
            }
            steps++;
            code.countOne(place);
            perform(what, code.numberAt(place));
            if (place >= code.count) {
                outcome = heap.kindOf(top());
            }
        }

        private void perform(int what, long number) {
            int next = place + 1;
            int beyond = next + (int) number;
            place = next;
            switch (what) {
                case FN:
                    push(heap.addFunction(next, names));
                    place = beyond;
                    return;
                case REC:
                    push(heap.addRecursive(next, names));
                    place = beyond;
                    return;
                case BIND:
                    names = heap.bind(pop(), names);
                    return;
                case UNBIND:
                    names = heap.outerOf(names);
                    return;
                case IF:
                    place = heap.numberOf(pop()) == 0L ? beyond : next;
                    return;
                case ELSE:
                    place = beyond;
                    return;
                case END:
                    tries--;
                    place = beyond;
                    return;
                case TRY:
                    attempt(beyond);
                    return;
                case CALL:
                    enter(next);
                    return;
                case RETURN:
                    leave();
                    return;
                case RAISE:
                    recover();
                    return;
                default:
                    push(made(what, number));
            }
        }

        private int made(int what, long number) {
            if (what == NUM) {
                return heap.addNumber(number);
            }
            if (what == GET) {
                return heap.lookUp(names, (int) number);
            }
            int last = pop();
            if (what == HALF) {
                return number == 0L ? heap.firstOf(last) : heap.secondOf(last);
            }
            int first = pop();
            if (what == PAIR) {
                return heap.addPair(first, last);
            }
            return heap.addNumber(combine((int) number, heap.numberOf(first), heap.numberOf(last)));
        }

        private void enter(int next) {
            int value = pop();
            int called = pop();
            if (calls >= 0 && calls < GOING_ON) {
                callPlaces[calls] = next;
                callNames[calls] = names;
                calls++;
            }
            names = heap.bind(value, heap.secondOf(called));
            place = heap.firstOf(called);
        }

        private void leave() {
            if (calls > 0 && calls <= GOING_ON) {
                calls--;
                place = callPlaces[calls];
                names = callNames[calls];
            }
        }

        private void attempt(int clause) {
            if (tries >= 0 && tries < GOING_ON) {
                tryPlaces[tries] = clause;
                tryHeights[tries] = height;
                tryNames[tries] = names;
                tryCalls[tries] = calls;
                tries++;
            }
        }

        private void recover() {
            int raised = pop();
            if (tries > 0 && tries <= GOING_ON) {
                tries--;
                height = tryHeights[tries];
                calls = tryCalls[tries];
                names = heap.bind(raised, tryNames[tries]);
                place = tryPlaces[tries];
            }
        }

        private void push(int value) {
            if (height >= 0 && height < STEPS) {
                stack[height] = value;
                height++;
            }
        }

        private int pop() {
            if (height <= 0 || height > STEPS) {
                return NONE;
            }
            height--;
            return stack[height];
        }

        private int top() {
            return height > 0 && height <= STEPS ? stack[height - 1] : NONE;
        }
    }

    /** The interpreter: a row of the terms that it is in, each within the one ahead of it. */
    private static final class Interpreter {
        private static final int CALLS = 500;
        private static final int WITHIN = 120;
        private static final int ROOM = (CALLS + 1) * PARTS;
        private static final int TURNS = 1_000_000;

        private final Term term;
        private final Heap heap;
        private final int[] terms;
        private final int[] begun;
        private final int[] around;
        private final int[] kept;
        private int depth;
        private int calls;
        private int result;
        int outcome;
        long answer;

        Interpreter(Term program) {
            term = program;
            heap = new Heap(ROOM);
            terms = new int[WITHIN];
            begun = new int[WITHIN];
            around = new int[WITHIN];
            kept = new int[WITHIN];
        }

        void interpret() {
            heap.clear();
            depth = 0;
            calls = 0;
            answer = 0L;
            outcome = GOING;
            enter(term.count - 1, NONE);
            for (int i = 0; i < TURNS && outcome == GOING && depth > 0; i++) {
                turn(depth - 1);
            }
            if (outcome == GOING) {
                outcome = depth > 0 ? TIRED : heap.kindOf(result);
                answer = heap.numberOf(result);
            }
        }

        /** Begins a term within the innermost one. */
        private void enter(int part, int names) {
            if (depth < 0 || depth >= WITHIN) {
                outcome = TIRED;
                return;
            }
            if (depth > 0) {
                begun[depth - 1]++;
            }
            terms[depth] = part;
            begun[depth] = 0;
            around[depth] = names;
            depth++;
        }

        /** Ends the innermost term with a value. */
        private void leave(int value) {
            result = value;
            depth--;
        }

        private void turn(int top) {
            if (top < 0 || top >= WITHIN) {
                outcome = TIRED;
                return;
            }
            int at = terms[top];
            switch (term.kindAt(at)) {
                case Term.A_NUMBER:
                    leave(heap.addNumber(term.numberAt(at)));
                    return;
                case Term.A_NAME:
                    leave(heap.lookUp(around[top], term.distanceAt(at)));
                    return;
                case Term.A_FUNCTION:
                    leave(heap.addFunction(term.partAt(at, 0), around[top]));
                    return;
                case Term.A_CALL:
                case Term.A_TWO:
                case Term.A_PAIR:
                    turnBoth(top, at);
                    return;
                case Term.A_REC:
                    turnRec(top, at);
                    return;
                default:
                    turnFirst(top, at);
            }
        }

        /** A term whose first two parts are both found ahead of what is done with them. */
        private void turnBoth(int top, int at) {
            if (begun[top] == 0) {
                enter(term.partAt(at, 0), around[top]);
                return;
            }
            if (begun[top] == 1) {
                kept[top] = result;
                enter(term.partAt(at, 1), around[top]);
                return;
            }
            int first = kept[top];
            switch (term.kindAt(at)) {
                case Term.A_CALL:
                    turnCall(top, first);
                    return;
                case Term.A_PAIR:
                    leave(heap.addPair(first, result));
                    return;
                default:
                    leave(heap.addNumber(combine(term.otherAt(at), heap.numberOf(first), heap.numberOf(result))));
            }
        }

        private void turnCall(int top, int called) {
            if (begun[top] > 2) {
                leave(result);
                return;
            }
            if (calls >= CALLS) {
                outcome = TIRED;
                return;
            }
            calls++;
            enter(heap.firstOf(called), heap.bind(result, heap.secondOf(called)));
        }

        private void turnRec(int top, int at) {
            if (begun[top] > 0) {
                leave(result);
                return;
            }
            int function = heap.addRecursive(term.partAt(at, 0), around[top]);
            enter(term.partAt(at, 1), heap.secondOf(function));
        }

        /** A term whose first part is found ahead of all others. */
        private void turnFirst(int top, int at) {
            if (begun[top] == 0) {
                enter(term.partAt(at, 0), around[top]);
                return;
            }
            if (begun[top] > 1) {
                leave(result);
                return;
            }
            switch (term.kindAt(at)) {
                case Term.AN_IF:
                    enter(term.partAt(at, heap.numberOf(result) != 0L ? 1 : 2), around[top]);
                    return;
                case Term.A_LET:
                    enter(term.partAt(at, 1), heap.bind(result, around[top]));
                    return;
                case Term.A_HALF:
                    leave(term.otherAt(at) == 0 ? heap.firstOf(result) : heap.secondOf(result));
                    return;
                case Term.A_RAISE:
                    recover(result);
                    return;
                default:
                    leave(result);
            }
        }

        /** Ends terms from the innermost one on, up to a handler that is in its body. */
        private void recover(int raised) {
            for (; depth > 0 && depth <= WITHIN; depth--) {
                int top = depth - 1;
                if (term.kindAt(terms[top]) == Term.A_HANDLER && begun[top] == 1) {
                    enter(term.partAt(terms[top], 1), heap.bind(raised, around[top]));
                    return;
                }
            }
            outcome = RAISED;
            answer = heap.numberOf(raised);
        }
    }
}
