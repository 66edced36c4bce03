/** The sentences under "Terms", promises 1 to 14 and "What it is" that name an edge, each with a test of its own. */
public final class TermsEdgesTest extends Checking {
    private static final long[] EDGES = {Long.MIN_VALUE, Long.MIN_VALUE + 1, -1L, 0L, 1L, 1L << 32, Long.MAX_VALUE};

    public static void main(String[] args) {
        holds("begins with an empty pile", TermsEdgesTest::emptyPile);
        holds("begins without a program", TermsEdgesTest::noProgram);
        holds("a pile of at most 20, of numbers", () -> atMost20((s, i) -> s.number(i)));
        holds("a pile of at most 20, of names", () -> atMost20((s, i) -> s.name(i % 10)));
        holds("a full pile takes what makes no more terms", TermsEdgesTest::fullPile);
        holds("terms come off the pile from the top, to the last one", TermsEdgesTest::takenOff);
        holds("a pile of terms of 60 parts each", TermsEdgesTest::largePile);
        makers();
        holds("a term of one part", () -> due(1, with(num(3)).size()));
        holds("each as often as it occurs", TermsEdgesTest::asOftenAsItOccurs);
        holds("a refused term leaves its parts as they were", TermsEdgesTest::partsAfterRefusal);
        for (int name : new int[] {0, 9}) {
            holds("names are 0 to 9: " + name, () -> nameIsBound(name));
        }
        for (int f = 0; f < 10; f++) {
            int first = f;
            holds("rec of two names, from " + f, () -> recOfNames(first));
        }
        for (long number : EDGES) {
            holds("a number, a long: " + number, () -> numberIsKept(number));
        }
        signs();
        ifs();
        binders();
        holds("takes the top term off the pile as the program", TermsEdgesTest::program);
        holds("how many parts it has, 60 at most", TermsEdgesTest::programOf60);
        holds("another program in place of the one before", TermsEdgesTest::anotherProgram);
        holds("at most 512 calls", TermsEdgesTest::manyCalls);
        finish();
    }

    // ---- the pile

    private interface Put {
        int on(Selfkindle s, int i);
    }

    private static void emptyPile() {
        refuses(STATE, () -> new Selfkindle().program());
        due(1, new Selfkindle().number(4L));
        due(1, new Selfkindle().name(4));
    }

    private static void noProgram() {
        Selfkindle s = new Selfkindle();
        due(0, s.size());
        refuses(STATE, () -> s.fault());
        s.number(1L);
        due(0, s.size());
        refuses(STATE, () -> s.fault());
        refuses(INDEX, () -> s.order(0, 0));
    }

    private static void atMost20(Put put) {
        Selfkindle s = new Selfkindle();
        for (int i = 1; i <= 20; i++) {
            due(i, put.on(s, i));
        }
        refuses(STATE, () -> put.on(s, 21));
        due(20, s.function(0));
        refuses(STATE, () -> put.on(s, 22));
        s.program();
        due(20, put.on(s, 23));
        refuses(STATE, () -> put.on(s, 24));
    }

    private static void fullPile() {
        Selfkindle s = new Selfkindle();
        for (int i = 0; i < 20; i++) {
            s.number(i);
        }
        due(20, s.half(true));
        due(20, s.raise());
        due(20, s.function(9));
        due(19, s.two(3));
        due(20, s.number(1L));
        refuses(STATE, () -> s.number(1L));
        due(18, s.choose());
        due(17, s.rec(1, 2));
        due(16, s.handle(3));
        due(15, s.let(4));
        due(14, s.call());
        due(13, s.pair());
    }

    private static void takenOff() {
        Selfkindle s = new Selfkindle();
        for (int i = 0; i < 20; i++) {
            s.number(i);
        }
        for (int i = 19; i >= 0; i--) {
            due(1, s.program());
            due(i, s.order(0, 1));
        }
        refuses(STATE, () -> s.program());
        due(0, s.order(0, 1));
        due(1, s.number(1L));
    }

    /** As many as 512 calls can tell. */
    private static void largePile() {
        Selfkindle s = new Selfkindle();
        for (int i = 0; i < 8; i++) {
            s.number(i);
            for (int k = 1; k < 60; k++) {
                s.function(k % 10);
            }
        }
        for (int i = 7; i >= 0; i--) {
            due(60, s.program());
            due(0, s.fault());
            due(i, s.order(59, 1));
        }
        refuses(STATE, () -> s.program());
    }

    // ---- at most 60 parts

    private static void makers() {
        atMost60("function", 1, s -> s.function(9));
        atMost60("call", 2, s -> s.call());
        atMost60("two", 2, s -> s.two(3));
        atMost60("choose", 3, s -> s.choose());
        atMost60("let", 2, s -> s.let(9));
        atMost60("rec", 2, s -> s.rec(9, 9));
        atMost60("pair", 2, s -> s.pair());
        atMost60("half false", 1, s -> s.half(false));
        atMost60("half true", 1, s -> s.half(true));
        atMost60("raise", 1, s -> s.raise());
        atMost60("handle", 2, s -> s.handle(9));
    }

    private static void atMost60(String maker, int terms, On on) {
        holds(maker + " of as many terms as it takes, and of one fewer", () -> asManyAsItTakes(terms, on));
        for (int large = 0; large < terms; large++) {
            int at = large;
            holds(maker + " of 60 parts, and of 61, most of them in term " + large, () -> sixty(terms, at, on));
        }
    }

    private static void asManyAsItTakes(int terms, On on) {
        Selfkindle s = new Selfkindle();
        for (int i = 0; i < terms; i++) {
            refuses(STATE, () -> on.ask(s));
            due(i + 1, s.number(i));
        }
        due(1, on.ask(s));
        due(terms + 1, s.program());
    }

    private static void sixty(int terms, int large, On on) {
        for (int parts = 60; parts <= 61; parts++) {
            Selfkindle s = new Selfkindle();
            s.number(5L);
            for (int i = 0; i < terms; i++) {
                tellParts(s, i == large ? parts - terms : 1);
            }
            if (parts == 60) {
                due(2, on.ask(s));
                due(60, s.program());
                due(60, s.size());
            } else {
                refuses(STATE, () -> on.ask(s));
                due(terms == 1 || large == terms - 1 ? 61 - terms : 1, s.program());
            }
        }
    }

    private static void asOftenAsItOccurs() {
        Selfkindle s = new Selfkindle();
        tellParts(s, 30);
        tellParts(s, 30);
        refuses(STATE, () -> s.pair());
        refuses(STATE, () -> s.call());
        s.program();
        tellParts(s, 29);
        due(1, s.pair());
        due(60, s.program());
    }

    private static void partsAfterRefusal() {
        Selfkindle s = new Selfkindle();
        s.number(6L);
        tellParts(s, 59);
        refuses(STATE, () -> s.two(0));
        due(2, s.function(0));
        refuses(STATE, () -> s.function(0));
        due(60, s.program());
        due(0, s.fault());
        due(Selfkindle.INT, s.type(118));
        due(Selfkindle.NONE, s.type(119));
        due(1, s.program());
        due(6, s.order(0, 1));
    }

    // ---- names, numbers, signs

    private static void nameIsBound(int name) {
        gives(5, app(fn(name, x(name)), num(5)));
        gives(5, let(name, num(5), x(name)));
        gives(5, handle(name, raise(num(5)), x(name)));
        gives(6, rec(name, 4, two(0, x(4), num(1)), app(x(name), num(5))));
        gives(6, rec(4, name, two(0, x(name), num(1)), app(x(4), num(5))));
    }

    private static void recOfNames(int f) {
        for (int other = 0; other < 10; other++) {
            gives(10, rec(f, other, two(0, x(other), num(3)), app(x(f), num(7))));
        }
    }

    private static void numberIsKept(long number) {
        Selfkindle s = with(num(number));
        due(number, s.order(0, 1));
        gives(number, num(number));
        gives(Selfkindle.RAISED, number, raise(num(number)));
        gives(number, let(1, num(number), half(0, pair(x(1), num(0)))));
    }

    private static void sign(int sign, long due, long first, long second) {
        String text = new String[] {"a sum", "a difference", "a product", "less"}[sign];
        holds(text + " of " + first + " and " + second, () -> {
            gives(due, two(sign, num(first), num(second)));
            gives(due, app(fn(1, two(sign, x(1), num(second))), num(first)));
        });
    }

    private static void signs() {
        long max = Long.MAX_VALUE;
        long min = Long.MIN_VALUE;
        sign(0, min, max, 1);
        sign(0, max, min, -1);
        sign(0, -2, max, max);
        sign(0, 0, min, min);
        sign(0, -1, max, min);
        sign(1, max, min, 1);
        sign(1, min, max, -1);
        sign(1, min, 0, min);
        sign(1, 0, min, min);
        sign(1, 1, min, max);
        sign(1, -1, max, min);
        sign(2, min, min, -1);
        sign(2, 1, max, max);
        sign(2, 0, min, 2);
        sign(2, 0, 1L << 32, 1L << 32);
        sign(2, min, 1L << 32, 1L << 31);
        sign(3, 0, 4, 4);
        sign(3, 1, 3, 4);
        sign(3, 0, 5, 4);
        sign(3, 1, min, max);
        sign(3, 0, max, min);
        sign(3, 0, min, min);
        sign(3, 1, -1, 0);
        sign(3, 1, max - 1, max);
    }

    private static void ifs() {
        for (long number : EDGES) {
            long due = number != 0L ? 2 : 3;
            holds("an if of " + number, () -> {
                gives(due, when(num(number), num(2), num(3)));
                gives(due, app(fn(1, when(x(1), num(2), num(3))), num(number)));
            });
        }
        holds("only one of both terms of an if is found", () -> {
            gives(2, when(num(7), num(2), raise(num(3))));
            gives(3, when(num(0), raise(num(2)), num(3)));
        });
    }

    // ---- which name it is

    private static void free(Model.Tree tree) {
        due(1, with(tree).fault());
    }

    private static void binders() {
        holds("a name without anything around it", () -> free(x(0)));
        holds("a function binds its name in its body", () -> {
            gives(4, app(fn(0, app(fn(0, x(0)), num(4))), num(9)));
            free(app(fn(0, x(0)), x(0)));
            free(fn(0, x(1)));
        });
        holds("a let binds its name in its body, not in its value", () -> {
            gives(8, let(0, num(3), let(0, two(0, x(0), num(5)), x(0))));
            free(let(0, x(0), x(0)));
            gives(3, let(0, num(3), two(1, let(1, let(0, num(9), x(0)), x(0)), num(0))));
        });
        holds("a rec binds f in both", () -> {
            gives(0, let(0, fn(5, num(99)), rec(0, 1, when(x(1), next(), num(0)), app(x(0), num(2)))));
            free(rec(0, 1, x(1), x(2)));
        });
        holds("a rec binds x in the body, not in the rest", () -> {
            gives(11, let(1, num(4), rec(0, 1, two(0, x(1), num(7)), app(x(0), x(1)))));
            free(rec(0, 1, x(1), x(1)));
        });
        holds("x within f, if both are the same", () -> {
            gives(12, rec(3, 3, two(0, x(3), num(5)), app(x(3), num(7))));
            due(2, with(rec(3, 3, app(x(3), num(1)), app(x(3), num(7)))).fault());
        });
        holds("a handler binds its name in the clause, not in the body", () -> {
            gives(6, let(0, num(6), handle(0, x(0), num(1))));
            gives(9, let(0, num(6), handle(0, raise(two(0, x(0), num(3))), x(0))));
            free(handle(0, x(0), x(0)));
        });
        holds("the nearest one around that binds it", TermsEdgesTest::nearest);
    }

    private static void nearest() {
        gives(2, let(0, num(1), app(fn(0, x(0)), num(2))));
        gives(1, let(0, num(1), app(fn(1, x(0)), num(2))));
        gives(3, app(fn(0, let(0, num(3), x(0))), num(2)));
        gives(5, let(0, num(1), handle(0, raise(num(5)), x(0))));
        gives(7, let(0, num(1), rec(2, 0, x(0), app(x(2), num(7)))));
        gives(1, let(0, num(1), rec(2, 3, x(0), app(x(2), num(7)))));
        gives(1, let(0, num(1), let(1, fn(2, x(0)), let(0, num(5), app(x(1), num(6))))));
    }

    // ---- the program

    private static void program() {
        Selfkindle s = new Selfkindle();
        s.number(1L);
        s.number(2L);
        due(1, s.program());
        due(2, s.order(0, 1));
        due(2, s.number(3L));
        due(1, s.pair());
        due(3, s.program());
        refuses(STATE, () -> s.program());
        due(3, s.size());
    }

    private static void programOf60() {
        Selfkindle s = new Selfkindle();
        tellParts(s, 60);
        due(60, s.program());
        due(60, s.size());
        due(0, s.fault());
        s.name(0);
        due(1, s.program());
        due(1, s.size());
    }

    private static void anotherProgram() {
        Selfkindle s = with(pair(num(1), raise(num(2))));
        s.stop(0, true);
        s.go(2000);
        due(Selfkindle.RAISED, s.state());
        tell(s, two(0, num(1), num(4)));
        s.program();
        due(Selfkindle.GOING, s.state());
        machineIs(s, 0, 0, 0, 0, 0, 0);
        due(false, s.stop(0, false));
        due(0, s.order(0, 2));
        types(s, Selfkindle.INT);
        due(Selfkindle.NUMBER, s.stateAnew());
        due(5, s.valueAnew());
        s.name(0);
        s.program();
        refuses(STATE, () -> s.state());
        refuses(INDEX, () -> s.order(0, 0));
        refuses(INDEX, () -> s.stop(0, false));
        tell(s, num(6));
        s.program();
        due(6, s.valueAnew());
        tell(s, app(num(1), num(2)));
        s.program();
        due(2, s.fault());
        refuses(STATE, () -> s.state());
        tell(s, num(7));
        s.program();
        due(0, s.fault());
        due(Selfkindle.NUMBER, s.go(1));
        due(7, s.value());
    }

    /** The dearest programs, to the last call. */
    private static void manyCalls() {
        Selfkindle s = new Selfkindle();
        Model.Tree dear = busy(5, false);
        int round = dear.size() + 4;
        int rounds = (512 - 4) / round;
        for (int i = 0; i < rounds; i++) {
            tell(s, dear);
            s.program();
            due(Selfkindle.TIRED, s.stateAnew());
            due(Selfkindle.NUMBER, s.go(2000));
            due(2000, s.machine(1));
        }
        for (int i = rounds * round + 4; i < 512; i++) {
            due(2000, s.machine(1));
        }
        due(1, s.number(4L));
        due(1, s.program());
        due(Selfkindle.NUMBER, s.go(1));
        due(4, s.value());
    }
}
