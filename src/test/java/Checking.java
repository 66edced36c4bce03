import java.util.ArrayList;
import java.util.List;

/** What the tests share: how terms are made and told, and how answers are compared with those that are due. */
class Checking {
    static final String INDEX = "java.lang.IndexOutOfBoundsException";
    static final String ARGUMENT = "java.lang.IllegalArgumentException";
    static final String STATE = "java.lang.IllegalStateException";
    private static int passed;
    private static int wrong;
    private static String sentence = "";

    interface Call {
        long answer();
    }

    interface Act {
        void run();
    }

    interface On {
        long ask(Selfkindle s);
    }

    // ---- how it is asked

    static void at(String which) {
        sentence = which;
    }

    /** One sentence of the document: an exception that nobody expects is a wrong answer to it, not the end of the test. */
    static void holds(String which, Act test) {
        at(which);
        int before = passed + wrong;
        try {
            test.run();
        } catch (RuntimeException thrown) {
            fails("threw " + thrown + " in line " + lineOf(thrown));
        }
        if (passed + wrong == before) {
            fails("asked nothing");
        }
    }

    private static void fails(String how) {
        wrong++;
        System.out.println(sentence + ": " + how);
    }

    private static int lineOf(Throwable thrown) {
        for (StackTraceElement element : thrown.getStackTrace()) {
            if (element.getClassName().endsWith("Test")) {
                return element.getLineNumber();
            }
        }
        return 0;
    }

    static void same(Object due, Object got) {
        if (due.equals(got)) {
            passed++;
        } else {
            fails("line " + lineOf(new Throwable()) + " answered " + got + ", due is " + due);
        }
    }

    static void due(long due, long got) {
        same(due, got);
    }

    static void due(boolean due, boolean got) {
        same(due, got);
    }

    static void refuses(String exception, Call call) {
        same(exception, thrownBy(call));
    }

    static String thrownBy(Call call) {
        try {
            call.answer();
        } catch (IndexOutOfBoundsException | IllegalStateException | IllegalArgumentException thrown) {
            return thrown.getClass().getName();
        }
        return "nothing";
    }

    static void refuses(String exception, Act act) {
        refuses(exception, () -> {
            act.run();
            return 0;
        });
    }

    static void finish() {
        System.out.println(passed + " passed, " + wrong + " failed");
        if (wrong != 0) {
            System.exit(1);
        }
    }

    // ---- terms

    static void tell(Selfkindle s, Model.Tree tree) {
        for (Model.Tree part : tree.parts()) {
            tell(s, part);
        }
        switch (tree.kind()) {
            case NUMBER -> s.number(tree.number());
            case NAME -> s.name(tree.name());
            case FUNCTION -> s.function(tree.name());
            case CALL -> s.call();
            case TWO -> s.two(tree.other());
            case IF -> s.choose();
            case LET -> s.let(tree.name());
            case REC -> s.rec(tree.name(), tree.other());
            case PAIR -> s.pair();
            case HALF -> s.half(tree.other() == 1);
            case RAISE -> s.raise();
            default -> s.handle(tree.name());
        }
    }

    static Selfkindle with(Model.Tree tree) {
        Selfkindle s = new Selfkindle();
        tell(s, tree);
        s.program();
        return s;
    }

    /** A term of so many parts, a number with functions around it. */
    static void tellParts(Selfkindle s, int parts) {
        s.number(1L);
        for (int i = 1; i < parts; i++) {
            s.function(0);
        }
    }

    static Model.Tree num(long number) {
        return Telling.num(number);
    }

    static Model.Tree x(int name) {
        return Telling.name(name);
    }

    static Model.Tree fn(int name, Model.Tree body) {
        return Telling.fn(name, body);
    }

    static Model.Tree app(Model.Tree called, Model.Tree value) {
        return Telling.call(called, value);
    }

    static Model.Tree two(int sign, Model.Tree first, Model.Tree second) {
        return Telling.two(sign, first, second);
    }

    static Model.Tree when(Model.Tree first, Model.Tree second, Model.Tree third) {
        return Telling.choose(first, second, third);
    }

    static Model.Tree let(int name, Model.Tree value, Model.Tree body) {
        return Telling.let(name, value, body);
    }

    static Model.Tree rec(int f, int x, Model.Tree body, Model.Tree rest) {
        return Telling.rec(f, x, body, rest);
    }

    static Model.Tree pair(Model.Tree first, Model.Tree second) {
        return Telling.pair(first, second);
    }

    static Model.Tree half(int which, Model.Tree pair) {
        return Telling.half(which, pair);
    }

    static Model.Tree raise(Model.Tree number) {
        return Telling.raise(number);
    }

    static Model.Tree handle(int name, Model.Tree body, Model.Tree clause) {
        return Telling.handle(name, body, clause);
    }

    /** Names 1 to 7 with types of 1, 3, 7, 15, 31, 63 and 127 parts. */
    static Model.Tree doubled(Model.Tree body) {
        Model.Tree term = body;
        for (int k = 7; k > 1; k--) {
            term = let(k, pair(x(k - 1), x(k - 1)), term);
        }
        return let(1, num(1), term);
    }

    /** A term whose type has so many parts, an odd number, within what is doubled. */
    static Model.Tree sized(int parts) {
        int k = 1;
        while ((2 << k) - 1 <= parts) {
            k++;
        }
        int rest = parts - (1 << k);
        return rest < 0 ? x(k) : pair(x(k), sized(rest));
    }

    /** Counts down from a number, with each call within the one before; more of them is told as name 0 of name 1. */
    static Model.Tree countdown(Model.Tree more, long from) {
        return countdown(more, num(8), from);
    }

    static Model.Tree countdown(Model.Tree more, Model.Tree last, long from) {
        return rec(0, 1, when(x(1), more, last), app(x(0), num(from)));
    }

    static Model.Tree next() {
        return app(x(0), two(1, x(1), num(1)));
    }

    /** A program that takes 1990 steps, and 2 more for each sum, 3 more for a half. */
    static Model.Tree busy(int sums, boolean isHalf) {
        Model.Tree busy = countdown(two(0, next(), num(0)), 180);
        if (isHalf) {
            busy = half(0, pair(busy, num(0)));
        }
        for (int i = 0; i < sums; i++) {
            busy = two(0, busy, num(1));
        }
        return busy;
    }

    /** Goes on to the end, so many steps at most at once; a machine that never ends is left GOING, so that the test ends. */
    static void goOn(Selfkindle s, int steps) {
        for (int i = 0; i < 2001 && s.state() == Selfkindle.GOING; i++) {
            s.go(steps);
        }
    }

    // ---- rows of answers

    static void row(List<Long> got, long... due) {
        List<Long> all = new ArrayList<>();
        for (long one : due) {
            all.add(one);
        }
        same(all, got);
    }

    /** Order and number by turns. */
    static List<Long> codeOf(Selfkindle s) {
        List<Long> all = new ArrayList<>();
        for (int i = 0; i < s.orders(); i++) {
            all.add(s.order(i, 0));
            all.add(s.order(i, 1));
        }
        return all;
    }

    static void code(Selfkindle s, long... due) {
        row(codeOf(s), due);
    }

    static List<Long> typesOf(Selfkindle s) {
        List<Long> all = new ArrayList<>();
        for (int i = 0; i <= 200 && s.type(i) != Selfkindle.NONE; i++) {
            all.add((long) s.type(i));
        }
        return all;
    }

    static void types(Selfkindle s, long... due) {
        row(typesOf(s), due);
    }

    static void machineIs(Selfkindle s, long... due) {
        List<Long> all = new ArrayList<>();
        for (int what = 0; what < 6; what++) {
            all.add((long) s.machine(what));
        }
        row(all, due);
    }

    /** How a program ends, by the interpreter, by the machine, and by the machine when passes have gone through it. */
    static void gives(int state, long value, Model.Tree tree) {
        Selfkindle s = with(tree);
        due(0, s.fault());
        due(state, s.stateAnew());
        due(value, s.valueAnew());
        due(state, s.go(2000));
        due(value, s.value());
        int made = 1;
        for (int i = 0; i < 10 && made > 0; i++) {
            made = s.optimise(15);
        }
        due(state, s.go(2000));
        due(value, s.value());
    }

    static void gives(long number, Model.Tree tree) {
        gives(Selfkindle.NUMBER, number, tree);
    }

    /** Lets passes go through a term, which must become another one, with so many made others. */
    static void passes(int passes, int due, Model.Tree from, Model.Tree to) {
        Selfkindle s = with(from);
        Selfkindle t = with(to);
        due(0, s.fault());
        due(due, s.optimise(passes));
        due(t.size(), s.size());
        same(codeOf(t), codeOf(s));
        due(s.stateAnew(), s.go(2000));
    }
}
