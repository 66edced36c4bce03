/** Each promise of the document by itself: ordinary inputs, the edges that it names, and wrong inputs. */
public final class PromisesTest extends Checking {
    public static void main(String[] args) {
        constants();
        newObject();
        number();
        name();
        function();
        call();
        two();
        choose();
        let();
        rec();
        pair();
        half();
        raise();
        handle();
        program();
        fault();
        type();
        typeLimits();
        fold();
        inline();
        drop();
        beta();
        optimise();
        size();
        orders();
        order();
        stop();
        go();
        goLimits();
        raiseInMachine();
        again();
        state();
        value();
        machine();
        stateAnew();
        stateAnewLimits();
        valueAnew();
        finish();
    }

    // ---- promises 1 to 14

    private static void constants() {
        at("the constants");
        int[] states = {Selfkindle.NONE, Selfkindle.GOING, Selfkindle.NUMBER, Selfkindle.FUNCTION, Selfkindle.PAIR_OF, Selfkindle.RAISED, Selfkindle.TIRED};
        for (int i = 0; i < states.length; i++) {
            due(i - 1, states[i]);
        }
        int[] orders = {Selfkindle.NUM, Selfkindle.GET, Selfkindle.FN, Selfkindle.CALL, Selfkindle.RETURN, Selfkindle.BIND, Selfkindle.UNBIND, Selfkindle.REC,
            Selfkindle.TWO, Selfkindle.IF, Selfkindle.ELSE, Selfkindle.PAIR, Selfkindle.HALF, Selfkindle.RAISE, Selfkindle.TRY, Selfkindle.END};
        for (int i = 0; i < orders.length; i++) {
            due(i, orders[i]);
        }
        due(1, Selfkindle.FOLD);
        due(2, Selfkindle.INLINE);
        due(4, Selfkindle.DROP);
        due(8, Selfkindle.BETA);
        due(0, Selfkindle.INT);
        due(1, Selfkindle.ARROW);
        due(2, Selfkindle.BOTH);
        due(10, Selfkindle.VARIABLE);
    }

    private static void newObject() {
        at("promise 1");
        Selfkindle s = new Selfkindle();
        due(0, s.size());
        refuses(STATE, () -> s.fault());
        refuses(STATE, () -> s.program());
        refuses(STATE, () -> s.state());
        due(1, s.number(1L));
    }

    private static void number() {
        at("promise 2");
        Selfkindle s = new Selfkindle();
        for (int i = 1; i <= 20; i++) {
            due(i, s.number(i));
        }
        refuses(STATE, () -> s.number(21L));
        due(19, s.pair());
        due(20, s.number(0L));
        Selfkindle least = with(num(Long.MIN_VALUE));
        due(Long.MIN_VALUE, least.order(0, 1));
        due(Selfkindle.NUMBER, least.go(1));
        due(Long.MIN_VALUE, least.value());
        due(Long.MAX_VALUE, with(num(Long.MAX_VALUE)).valueAnew());
    }

    private static void name() {
        at("promise 3");
        Selfkindle s = new Selfkindle();
        due(1, s.name(0));
        due(2, s.name(9));
        refuses(INDEX, () -> s.name(-1));
        refuses(INDEX, () -> s.name(10));
        for (int i = 3; i <= 20; i++) {
            due(i, s.name(i % 10));
        }
        refuses(STATE, () -> s.name(0));
        refuses(INDEX, () -> s.name(10));
        due(1, s.program());
        due(1, s.fault());
        due(20, s.name(0));
    }

    private static void function() {
        at("promise 4");
        Selfkindle s = new Selfkindle();
        refuses(STATE, () -> s.function(0));
        refuses(INDEX, () -> s.function(-1));
        refuses(INDEX, () -> s.function(10));
        tellParts(s, 59);
        due(1, s.function(9));
        refuses(STATE, () -> s.function(0));
        refuses(INDEX, () -> s.function(10));
        due(60, s.program());
        types(with(fn(3, x(3))), 1, 10, 10);
        due(7, with(app(fn(3, two(0, x(3), num(2))), num(5))).valueAnew());
    }

    private static void call() {
        at("promise 5");
        joins(2, s -> s.call());
        types(with(fn(0, fn(1, app(x(0), x(1))))), 1, 1, 10, 11, 1, 10, 11);
    }

    private static void two() {
        at("promise 6");
        joins(2, s -> s.two(0));
        Selfkindle s = new Selfkindle();
        refuses(ARGUMENT, () -> s.two(-1));
        refuses(ARGUMENT, () -> s.two(4));
        refuses(STATE, () -> s.two(3));
        long[][] dues = {{7, 3, 10, 4, 21, 0}, {-3, 2, -1, -5, -6, 1}, {4, 4, 8, 0, 16, 0}, {Long.MAX_VALUE, 2, Long.MIN_VALUE + 1, Long.MAX_VALUE - 2, -2, 0},
            {Long.MIN_VALUE, 1, Long.MIN_VALUE + 1, Long.MAX_VALUE, Long.MIN_VALUE, 1}};
        for (long[] row : dues) {
            for (int sign = 0; sign < 4; sign++) {
                Selfkindle t = with(two(sign, num(row[0]), num(row[1])));
                due(Selfkindle.NUMBER, t.go(2000));
                due(row[2 + sign], t.value());
                due(row[2 + sign], t.valueAnew());
                due(1, t.optimise(Selfkindle.FOLD));
                due(row[2 + sign], t.order(0, 1));
            }
        }
    }

    private interface Join {
        int on(Selfkindle s);
    }

    /** What holds of each call that makes one term of several: too few, 60 parts, and one more. */
    private static void joins(int parts, Join join) {
        for (int have = 0; have < parts; have++) {
            Selfkindle few = new Selfkindle();
            for (int i = 0; i < have; i++) {
                few.number(0L);
            }
            refuses(STATE, () -> join.on(few));
            due(have + 1, few.number(0L));
        }
        Selfkindle s = new Selfkindle();
        s.number(5L);
        tellParts(s, 60 - parts);
        for (int i = 1; i < parts; i++) {
            s.number(0L);
        }
        due(2, join.on(s));
        due(60, s.program());
        tellParts(s, 61 - parts);
        for (int i = 1; i < parts; i++) {
            s.number(0L);
        }
        refuses(STATE, () -> join.on(s));
        due(2 + parts, s.number(3L));
        due(1, s.program());
    }

    private static void choose() {
        at("promise 7");
        joins(3, s -> s.choose());
        due(2, with(when(num(-1), num(2), num(3))).valueAnew());
        due(3, with(when(num(0), num(2), num(3))).valueAnew());
        Selfkindle s = with(when(num(0), raise(num(2)), num(3)));
        due(Selfkindle.NUMBER, s.go(2000));
        due(3, s.value());
    }

    private static void let() {
        at("promise 8");
        joins(2, s -> s.let(9));
        Selfkindle s = new Selfkindle();
        refuses(INDEX, () -> s.let(-1));
        refuses(INDEX, () -> s.let(10));
        due(1, with(let(0, x(0), num(1))).fault());
        due(6, with(let(0, num(1), let(0, two(0, x(0), num(5)), x(0)))).valueAnew());
    }

    private static void rec() {
        at("promise 9");
        joins(2, s -> s.rec(9, 0));
        Selfkindle s = new Selfkindle();
        refuses(INDEX, () -> s.rec(-1, 0));
        refuses(INDEX, () -> s.rec(0, 10));
        refuses(INDEX, () -> s.rec(10, 0));
        refuses(INDEX, () -> s.rec(0, -1));
        due(0, with(rec(0, 1, two(0, x(1), num(1)), app(x(0), num(4)))).fault());
        due(1, with(rec(0, 1, x(1), x(1))).fault());
        Selfkindle same = with(rec(2, 2, two(0, x(2), num(1)), app(x(2), num(4))));
        due(5, same.valueAnew());
        due(Selfkindle.NUMBER, same.go(2000));
        due(5, same.value());
    }

    private static void pair() {
        at("promise 10");
        joins(2, s -> s.pair());
        due(3, with(half(0, pair(num(3), num(4)))).valueAnew());
    }

    private static void half() {
        at("promise 11");
        joins(1, s -> s.half(false));
        due(3, with(half(0, pair(num(3), num(4)))).valueAnew());
        due(4, with(half(1, pair(num(3), num(4)))).valueAnew());
        due(2, with(half(1, num(3))).fault());
    }

    private static void raise() {
        at("promise 12");
        joins(1, s -> s.raise());
        due(Selfkindle.RAISED, with(raise(num(3))).stateAnew());
        due(2, with(raise(pair(num(3), num(1)))).fault());
    }

    private static void handle() {
        at("promise 13");
        joins(2, s -> s.handle(0));
        Selfkindle s = new Selfkindle();
        refuses(INDEX, () -> s.handle(-1));
        refuses(INDEX, () -> s.handle(10));
        due(1, with(handle(0, x(0), num(1))).fault());
        due(4, with(handle(0, two(0, raise(num(3)), num(8)), two(0, x(0), num(1)))).valueAnew());
        due(2, with(handle(0, num(2), x(0))).valueAnew());
        due(2, with(handle(0, pair(num(1), num(1)), x(0))).fault());
    }

    private static void program() {
        at("promise 14");
        Selfkindle s = new Selfkindle();
        refuses(STATE, () -> s.program());
        s.number(1L);
        s.number(2L);
        s.number(3L);
        s.pair();
        due(3, s.program());
        due(3, s.size());
        s.stop(1, true);
        due(Selfkindle.GOING, s.go(1));
        due(1, s.program());
        due(1, s.size());
        due(0, s.machine(1));
        due(false, s.stop(0, false));
        refuses(STATE, () -> s.program());
        due(1, s.size());
        s.name(0);
        due(1, s.program());
        refuses(STATE, () -> s.state());
    }

    // ---- types

    private static void fault() {
        at("promise 15");
        refuses(STATE, () -> new Selfkindle().fault());
        due(0, with(num(1)).fault());
        due(1, with(x(0)).fault());
        due(1, with(app(num(1), x(0))).fault());
        due(1, with(let(0, x(0), x(0))).fault());
        due(1, with(pair(fn(0, x(0)), x(0))).fault());
        due(0, with(fn(1, fn(1, x(1)))).fault());
        due(2, with(app(num(1), num(2))).fault());
        due(2, with(fn(0, app(x(0), x(0)))).fault());
        due(2, with(when(num(1), num(2), fn(0, x(0)))).fault());
        due(2, with(when(fn(0, x(0)), num(2), num(3))).fault());
        due(2, with(two(3, num(1), fn(0, x(0)))).fault());
        due(2, with(two(3, fn(0, x(0)), num(1))).fault());
        due(2, with(handle(0, num(1), fn(1, x(1)))).fault());
        due(2, with(fn(0, pair(app(x(0), num(1)), app(x(0), x(0))))).fault());
        due(0, with(let(0, fn(1, x(1)), pair(app(x(0), num(1)), app(x(0), x(0))))).fault());
        due(2, with(app(fn(0, pair(app(x(0), num(1)), app(x(0), x(0)))), fn(1, x(1)))).fault());
        due(2, with(fn(2, let(0, x(2), pair(app(x(0), num(1)), app(x(0), x(0)))))).fault());
        due(0, with(rec(0, 1, x(1), pair(app(x(0), num(1)), app(x(0), x(0))))).fault());
        due(2, with(rec(0, 1, let(2, app(x(0), num(1)), x(1)), app(x(0), x(0)))).fault());
        due(2, with(let(0, num(1), app(fn(1, app(x(1), x(1))), x(0)))).fault());
        Selfkindle s = with(half(0, pair(num(1), fn(0, x(0)))));
        s.optimise(15);
        due(0, s.fault());
    }

    private static void type() {
        at("promise 16");
        refuses(STATE, () -> new Selfkindle().type(0));
        refuses(INDEX, () -> new Selfkindle().type(-1));
        refuses(STATE, () -> with(x(0)).type(0));
        refuses(STATE, () -> with(app(num(1), num(1))).type(0));
        Selfkindle one = with(num(1));
        refuses(INDEX, () -> one.type(-1));
        due(Selfkindle.INT, one.type(0));
        due(Selfkindle.NONE, one.type(1));
        due(Selfkindle.NONE, one.type(Integer.MAX_VALUE));
        types(with(raise(num(1))), 10);
        types(with(fn(0, raise(x(0)))), 1, 0, 10);
        types(with(fn(0, fn(1, fn(2, app(app(x(0), x(2)), app(x(1), x(2))))))), 1, 1, 10, 1, 11, 12, 1, 1, 10, 11, 1, 10, 12);
        types(with(fn(0, pair(half(1, x(0)), half(0, x(0))))), 1, 2, 10, 11, 2, 11, 10);
        types(with(fn(0, when(x(0), x(0), num(1)))), 1, 0, 0);
        types(with(fn(0, handle(1, x(0), raise(x(1))))), 1, 10, 10);
        types(with(fn(0, let(1, fn(2, x(0)), pair(app(x(1), num(1)), app(x(1), x(1)))))), 1, 10, 2, 10, 10);
        types(with(fn(0, let(1, fn(2, pair(x(0), x(2))), app(x(1), x(0))))), 1, 10, 2, 10, 10);
        types(with(rec(0, 1, app(x(0), x(1)), x(0))), 1, 10, 11);
        types(with(rec(0, 1, app(x(0), num(1)), x(0))), 1, 0, 10);
        types(with(rec(0, 1, x(1), pair(x(0), x(0)))), 2, 1, 10, 10, 1, 11, 11);
        types(with(fn(3, rec(0, 1, x(3), pair(x(0), x(0))))), 1, 10, 2, 1, 11, 10, 1, 12, 10);
        Selfkindle passed = with(fn(0, let(1, fn(2, two(0, x(0), x(2))), x(0))));
        types(passed, 1, 0, 0);
        due(1, passed.optimise(Selfkindle.DROP));
        types(passed, 1, 10, 10);
        Selfkindle beta = with(app(fn(0, fn(1, when(x(1), x(0), x(0)))), fn(2, x(2))));
        types(beta, 1, 0, 1, 10, 10);
        due(1, beta.optimise(Selfkindle.BETA));
        types(beta, 1, 0, 1, 10, 10);
    }

    private static void typeLimits() {
        at("types of 200 parts");
        Selfkindle most = with(doubled(pair(x(7), pair(x(6), x(3)))));
        due(0, most.fault());
        due(Selfkindle.INT, most.type(198));
        due(Selfkindle.NONE, most.type(199));
        due(2, with(doubled(pair(x(7), pair(x(6), pair(x(3), x(1)))))).fault());
        due(2, with(doubled(half(0, pair(num(1), pair(x(7), x(7)))))).fault());
        due(0, with(doubled(app(fn(0, num(1)), pair(x(7), x(6))))).fault());
        due(2, with(doubled(app(fn(0, num(1)), pair(x(7), pair(x(6), x(3)))))).fault());
        Model.Tree grows = fn(0, let(8, pair(x(0), x(0)), let(9, pair(x(8), x(8)), app(x(0), x(7)))));
        due(2, with(doubled(grows)).fault());
        at("a rec whose f is nowhere a part");
        Model.Tree body = let(0, when(num(1), x(1), x(7)), x(7));
        due(0, with(doubled(rec(8, 1, body, num(1)))).fault());
        due(2, with(doubled(rec(8, 1, body, let(9, x(8), num(1))))).fault());
    }

    // ---- passes

    private static void fold() {
        at("promise 17, FOLD");
        int fold = Selfkindle.FOLD;
        passes(fold, 2, two(0, two(2, num(2), num(3)), num(4)), num(10));
        passes(fold, 1, when(num(7), fn(0, x(0)), fn(0, num(1))), fn(0, x(0)));
        passes(fold, 1, when(num(0), fn(0, x(0)), fn(0, num(1))), fn(0, num(1)));
        passes(fold, 2, when(two(3, num(1), num(0)), num(5), num(6)), num(6));
        passes(fold, 1, half(0, pair(num(1), fn(0, x(0)))), num(1));
        passes(fold, 1, half(1, pair(num(1), fn(0, x(0)))), fn(0, x(0)));
        passes(fold, 0, half(1, pair(pair(num(1), num(2)), num(3))), half(1, pair(pair(num(1), num(2)), num(3))));
        passes(fold, 0, half(0, pair(num(3), raise(num(1)))), half(0, pair(num(3), raise(num(1)))));
        passes(fold, 1, fn(0, half(1, pair(x(0), num(3)))), fn(0, num(3)));
        passes(fold, 2, when(num(1), num(2), two(1, num(3), num(4))), num(2));
        passes(fold, 0, fn(0, two(0, x(0), num(0))), fn(0, two(0, x(0), num(0))));
        passes(15 - fold, 0, two(0, num(2), num(3)), two(0, num(2), num(3)));
    }

    private static void inline() {
        at("promise 17, INLINE");
        int inline = Selfkindle.INLINE;
        passes(inline, 1, let(0, num(2), two(0, x(0), x(0))), two(0, num(2), num(2)));
        passes(inline, 1, fn(1, let(0, x(1), two(0, x(0), x(0)))), fn(1, two(0, x(1), x(1))));
        passes(inline, 0, fn(1, let(0, x(1), fn(1, x(0)))), fn(1, let(0, x(1), fn(1, x(0)))));
        passes(inline, 0, fn(1, let(0, x(1), rec(2, 1, x(0), x(2)))), fn(1, let(0, x(1), rec(2, 1, x(0), x(2)))));
        passes(inline, 0, fn(1, let(0, x(1), handle(1, x(0), x(1)))), fn(1, let(0, x(1), handle(1, x(0), x(1)))));
        passes(inline, 0, fn(0, let(0, x(0), x(0))), fn(0, let(0, x(0), x(0))));
        passes(inline, 1, let(0, num(2), fn(1, pair(x(0), fn(0, x(0))))), fn(1, pair(num(2), fn(0, x(0)))));
        passes(inline, 1, let(0, num(2), rec(1, 0, x(0), app(x(1), x(0)))), rec(1, 0, x(0), app(x(1), num(2))));
        passes(inline, 1, let(0, num(2), handle(0, x(0), x(0))), handle(0, num(2), x(0)));
        passes(inline, 0, let(0, fn(1, x(1)), x(0)), let(0, fn(1, x(1)), x(0)));
        passes(inline, 2, let(0, num(1), let(1, x(0), x(1))), num(1));
        passes(inline, 2, let(0, let(1, num(3), x(1)), x(0)), num(3));
        passes(inline, 1, fn(1, let(0, x(1), let(0, fn(2, x(2)), x(0)))), fn(1, let(0, fn(2, x(2)), x(0))));
        passes(inline, 1, let(0, num(1), let(1, x(0), fn(0, x(1)))), let(1, num(1), fn(0, x(1))));
    }

    private static void drop() {
        at("promise 17, DROP");
        int drop = Selfkindle.DROP;
        passes(drop, 1, let(0, num(2), num(3)), num(3));
        passes(drop, 1, let(0, fn(1, x(1)), fn(0, x(0))), fn(0, x(0)));
        passes(drop, 1, fn(1, let(0, x(1), num(3))), fn(1, num(3)));
        passes(drop, 0, let(0, pair(num(1), num(2)), num(3)), let(0, pair(num(1), num(2)), num(3)));
        passes(drop, 0, let(0, num(2), two(0, num(1), x(0))), let(0, num(2), two(0, num(1), x(0))));
        passes(drop, 1, let(0, num(2), let(0, num(4), two(0, num(1), x(0)))), let(0, num(4), two(0, num(1), x(0))));
        passes(drop, 0, let(0, num(2), let(0, x(0), two(0, num(1), x(0)))), let(0, num(2), let(0, x(0), two(0, num(1), x(0)))));
        passes(drop, 1, rec(0, 1, app(x(0), x(1)), num(5)), num(5));
        passes(drop, 0, rec(0, 1, x(1), app(x(0), num(5))), rec(0, 1, x(1), app(x(0), num(5))));
        passes(drop, 2, let(0, num(1), rec(1, 2, x(0), num(7))), num(7));
        passes(drop, 1, let(3, num(1), rec(0, 3, x(3), app(x(0), num(2)))), rec(0, 3, x(3), app(x(0), num(2))));
        passes(drop, 1, let(3, num(1), handle(3, num(2), x(3))), handle(3, num(2), x(3)));
        passes(drop, 1, let(3, num(1), rec(3, 4, app(x(3), x(4)), fn(5, x(3)))), rec(3, 4, app(x(3), x(4)), fn(5, x(3))));
    }

    private static void beta() {
        at("promise 17, BETA");
        int beta = Selfkindle.BETA;
        passes(beta, 1, app(fn(0, two(0, x(0), num(1))), num(4)), let(0, num(4), two(0, x(0), num(1))));
        passes(beta, 1, app(fn(0, app(x(0), num(1))), fn(1, x(1))), let(0, fn(1, x(1)), app(x(0), num(1))));
        passes(beta, 1, fn(0, app(fn(0, x(0)), x(0))), fn(0, let(0, x(0), x(0))));
        passes(beta, 0, app(fn(0, x(0)), two(0, num(1), num(1))), app(fn(0, x(0)), two(0, num(1), num(1))));
        passes(beta, 1, app(app(fn(0, fn(1, x(0))), num(1)), num(2)), app(let(0, num(1), fn(1, x(0))), num(2)));
        passes(beta, 2, app(fn(0, app(fn(1, x(1)), x(0))), num(2)), let(0, num(2), let(1, x(0), x(1))));
    }

    private static void optimise() {
        at("promise 17");
        refuses(ARGUMENT, () -> new Selfkindle().optimise(-1));
        refuses(ARGUMENT, () -> new Selfkindle().optimise(16));
        refuses(STATE, () -> new Selfkindle().optimise(0));
        refuses(STATE, () -> with(x(0)).optimise(0));
        Model.Tree chain = app(fn(0, two(0, x(0), num(1))), num(4));
        passes(15, 1, chain, let(0, num(4), two(0, x(0), num(1))));
        Selfkindle s = with(chain);
        due(1, s.optimise(15));
        due(1, s.optimise(15));
        due(3, s.size());
        due(1, s.optimise(15));
        due(1, s.size());
        due(0, s.optimise(15));
        passes(6, 3, let(0, let(1, num(3), x(1)), let(2, fn(3, x(0)), num(9))), num(9));
        Selfkindle begun = with(two(0, num(1), num(2)));
        due(false, begun.stop(1, true));
        due(Selfkindle.GOING, begun.go(5));
        due(1, begun.machine(1));
        due(0, begun.optimise(0));
        due(0, begun.machine(1));
        due(0, begun.order(0, 2));
        due(false, begun.stop(1, false));
        due(Selfkindle.NUMBER, begun.go(5));
        due(0, begun.optimise(8));
        due(Selfkindle.GOING, begun.state());
        due(3, begun.valueAnew());
    }

    // ---- orders

    private static void size() {
        at("promise 18");
        due(0, new Selfkindle().size());
        Selfkindle s = with(let(0, num(1), num(2)));
        due(3, s.size());
        s.optimise(Selfkindle.DROP);
        due(1, s.size());
        due(2, with(fn(0, x(1))).size());
    }

    private static void orders() {
        at("promise 19");
        refuses(STATE, () -> new Selfkindle().orders());
        refuses(STATE, () -> with(x(0)).orders());
        refuses(STATE, () -> with(half(0, num(1))).orders());
        due(1, with(num(1)).orders());
        code(with(num(-4)), 0, -4);
        code(with(fn(0, x(0))), 2, 2, 1, 0, 4, 0);
        code(with(fn(0, fn(1, x(0)))), 2, 4, 2, 2, 1, 1, 4, 0, 4, 0);
        code(with(app(fn(0, x(0)), num(3))), 2, 2, 1, 0, 4, 0, 0, 3, 3, 0);
        code(with(two(2, num(5), num(6))), 0, 5, 0, 6, 8, 2);
        code(with(when(num(1), two(0, num(2), num(3)), num(4))), 0, 1, 9, 4, 0, 2, 0, 3, 8, 0, 10, 1, 0, 4);
        code(with(let(0, num(1), let(1, num(2), pair(x(0), x(1))))), 0, 1, 5, 0, 0, 2, 5, 0, 1, 1, 1, 0, 11, 0, 6, 0, 6, 0);
        code(with(rec(0, 1, app(x(0), x(1)), x(0))), 7, 4, 1, 1, 1, 0, 3, 0, 4, 0, 5, 0, 1, 0, 6, 0);
        code(with(let(3, num(1), rec(0, 0, two(0, x(0), x(3)), x(3)))), 0, 1, 5, 0, 7, 4, 1, 0, 1, 2, 8, 0, 4, 0, 5, 0, 1, 1, 6, 0, 6, 0);
        code(with(half(1, pair(num(1), num(2)))), 0, 1, 0, 2, 11, 0, 12, 1);
        code(with(half(0, pair(num(1), num(2)))), 0, 1, 0, 2, 11, 0, 12, 0);
        code(with(raise(num(1))), 0, 1, 13, 0);
        code(with(handle(0, raise(num(7)), two(0, x(0), num(1)))), 14, 3, 0, 7, 13, 0, 15, 4, 1, 0, 0, 1, 8, 0, 6, 0);
        code(with(let(1, num(9), handle(0, x(1), x(1)))), 0, 9, 5, 0, 14, 2, 1, 0, 15, 2, 1, 1, 6, 0, 6, 0);
    }

    private static void order() {
        at("promise 20");
        refuses(INDEX, () -> new Selfkindle().order(0, 0));
        refuses(INDEX, () -> with(x(0)).order(0, 0));
        refuses(INDEX, () -> with(app(num(1), num(1))).order(0, 9));
        Selfkindle s = with(two(1, num(1), num(2)));
        refuses(INDEX, () -> s.order(-1, 0));
        refuses(INDEX, () -> s.order(3, 3));
        refuses(ARGUMENT, () -> s.order(2, -1));
        refuses(ARGUMENT, () -> s.order(2, 3));
        due(Selfkindle.TWO, s.order(2, 0));
        due(1, s.order(2, 1));
        due(0, s.order(2, 2));
        s.go(1);
        due(1, s.order(0, 2));
        due(0, s.order(1, 2));
        s.go(2);
        due(1, s.order(2, 2));
        Selfkindle raised = with(raise(num(1)));
        raised.go(9);
        due(1, raised.order(0, 2));
        due(0, raised.order(1, 2));
    }

    // ---- the machine

    private static void stop() {
        at("promise 21");
        refuses(INDEX, () -> new Selfkindle().stop(0, true));
        refuses(INDEX, () -> with(x(0)).stop(0, true));
        Selfkindle s = with(two(0, num(1), num(2)));
        refuses(INDEX, () -> s.stop(-1, true));
        refuses(INDEX, () -> s.stop(3, true));
        due(false, s.stop(0, true));
        due(true, s.stop(0, true));
        due(false, s.stop(2, true));
        due(Selfkindle.GOING, s.go(2000));
        due(2, s.machine(0));
        due(Selfkindle.NUMBER, s.go(2000));
        s.again();
        due(true, s.stop(2, false));
        due(false, s.stop(2, false));
        due(Selfkindle.NUMBER, s.go(2000));
        due(true, s.stop(0, false));
    }

    private static void go() {
        at("promise 22");
        refuses(ARGUMENT, () -> new Selfkindle().go(0));
        refuses(ARGUMENT, () -> new Selfkindle().go(2001));
        refuses(STATE, () -> new Selfkindle().go(2000));
        refuses(STATE, () -> with(x(0)).go(1));
        refuses(STATE, () -> with(half(0, num(1))).go(1));
        Selfkindle s = with(two(0, num(1), num(2)));
        due(Selfkindle.GOING, s.go(2));
        due(2, s.machine(0));
        due(Selfkindle.NUMBER, s.go(1));
        refuses(STATE, () -> s.go(1));
        refuses(ARGUMENT, () -> s.go(0));
        Selfkindle loop = with(rec(0, 1, when(x(1), app(x(0), two(1, x(1), num(1))), num(8)), app(x(0), num(3))));
        due(false, loop.stop(1, true));
        for (int i = 0; i < 4; i++) {
            due(Selfkindle.GOING, loop.go(2000));
            due(1, loop.machine(0));
            due(i, loop.order(1, 2));
        }
        due(Selfkindle.NUMBER, loop.go(2000));
        due(8, loop.value());
        due(Selfkindle.FUNCTION, with(fn(0, x(0))).go(1));
        due(Selfkindle.PAIR_OF, with(pair(num(1), num(2))).go(3));
    }

    private static void goLimits() {
        at("200 calls");
        Selfkindle most = with(countdown(next(), 199));
        due(Selfkindle.NUMBER, most.go(2000));
        due(8, most.value());
        Selfkindle more = with(countdown(next(), 200));
        due(Selfkindle.TIRED, more.go(2000));
        due(200, more.machine(4));
        due(Selfkindle.CALL, more.order(more.machine(0), 0));
        due(2, more.machine(2));
        refuses(STATE, () -> more.go(1));
        refuses(STATE, () -> more.value());
        at("200 calls and tries");
        Model.Tree tries = handle(2, next(), x(2));
        due(Selfkindle.NUMBER, with(countdown(tries, 99)).go(2000));
        Selfkindle tried = with(handle(3, countdown(tries, 99), x(3)));
        due(Selfkindle.NUMBER, tried.go(2000));
        Selfkindle tired = with(handle(3, countdown(tries, 100), x(3)));
        due(Selfkindle.TIRED, tired.go(2000));
        due(100, tired.machine(4));
        due(100, tired.machine(5));
        due(Selfkindle.TRY, tired.order(tired.machine(0), 0));
        at("2000 steps");
        Model.Tree twice = two(0, next(), next());
        Selfkindle steps = with(countdown(twice, 30));
        due(Selfkindle.GOING, steps.go(1999));
        due(Selfkindle.GOING, steps.go(1));
        due(2000, steps.machine(1));
        int place = steps.machine(0);
        due(Selfkindle.TIRED, steps.go(1));
        due(2000, steps.machine(1));
        due(place, steps.machine(0));
        steps.again();
        due(Selfkindle.GOING, steps.go(2000));
        due(Selfkindle.TIRED, steps.go(2000));
        stepsAtTheEnd();
    }

    private static void stepsAtTheEnd() {
        at("2000 steps and the end");
        Selfkindle just = with(busy(5, false));
        due(Selfkindle.NUMBER, just.go(2000));
        due(2000, just.machine(1));
        due(just.orders(), just.machine(0));
        due(13, just.value());
        Selfkindle more = with(busy(4, true));
        due(Selfkindle.GOING, more.go(2000));
        due(Selfkindle.TIRED, more.go(1));
        at("2000 steps and a raise");
        Selfkindle tired = with(raise(busy(5, false)));
        due(Selfkindle.GOING, tired.go(2000));
        due(Selfkindle.RAISE, tired.order(tired.machine(0), 0));
        due(Selfkindle.TIRED, tired.go(1));
        refuses(STATE, () -> tired.value());
        Selfkindle raised = with(raise(busy(3, true)));
        due(Selfkindle.RAISED, raised.go(2000));
        due(1999, raised.machine(1));
        due(11, raised.value());
    }

    private static void raiseInMachine() {
        at("RAISE");
        Selfkindle s = with(two(0, num(1), handle(0, app(fn(1, two(2, num(5), raise(x(1)))), num(7)), x(0))));
        due(Selfkindle.NUMBER, s.go(2000));
        due(8, s.value());
        s.again();
        s.go(6);
        due(1, s.machine(4));
        due(1, s.machine(5));
        due(2, s.machine(2));
        due(1, s.machine(3));
        s.go(1);
        due(Selfkindle.RAISE, s.order(s.machine(0), 0));
        s.go(1);
        due(0, s.machine(4));
        due(0, s.machine(5));
        due(1, s.machine(2));
        due(1, s.machine(3));
        due(Selfkindle.GET, s.order(s.machine(0), 0));
        due(9, with(handle(0, handle(1, raise(num(4)), raise(two(0, x(1), num(5)))), x(0))).valueAnew());
        due(6, with(handle(0, let(1, handle(2, num(1), num(2)), raise(num(6))), x(0))).valueAnew());
        Selfkindle through = with(handle(0, let(1, handle(2, num(1), num(2)), raise(num(6))), x(0)));
        due(Selfkindle.NUMBER, through.go(2000));
        due(6, through.value());
    }

    private static void again() {
        at("promise 23");
        refuses(STATE, () -> new Selfkindle().again());
        refuses(STATE, () -> with(x(0)).again());
        Selfkindle s = with(handle(0, raise(num(4)), x(0)));
        s.stop(2, true);
        due(Selfkindle.GOING, s.go(2000));
        due(Selfkindle.NUMBER, s.go(2000));
        s.again();
        for (int what = 0; what < 6; what++) {
            due(0, s.machine(what));
        }
        due(Selfkindle.GOING, s.state());
        due(0, s.order(0, 2));
        due(true, s.stop(2, true));
    }

    private static void state() {
        at("promise 24");
        refuses(STATE, () -> new Selfkindle().state());
        refuses(STATE, () -> with(x(0)).state());
        Selfkindle s = with(pair(num(1), num(2)));
        due(Selfkindle.GOING, s.state());
        s.go(2);
        due(Selfkindle.GOING, s.state());
        s.go(1);
        due(Selfkindle.PAIR_OF, s.state());
    }

    private static void value() {
        at("promise 25");
        refuses(STATE, () -> new Selfkindle().value());
        refuses(STATE, () -> with(x(0)).value());
        Selfkindle pair = with(pair(num(1), num(2)));
        refuses(STATE, () -> pair.value());
        pair.go(3);
        refuses(STATE, () -> pair.value());
        Selfkindle function = with(fn(0, x(0)));
        function.go(3);
        refuses(STATE, () -> function.value());
        Selfkindle raised = with(two(0, num(5), raise(num(6))));
        refuses(STATE, () -> raised.value());
        due(Selfkindle.RAISED, raised.go(9));
        due(6, raised.value());
    }

    private static void machine() {
        at("promise 26");
        refuses(ARGUMENT, () -> new Selfkindle().machine(-1));
        refuses(ARGUMENT, () -> new Selfkindle().machine(6));
        refuses(STATE, () -> new Selfkindle().machine(5));
        refuses(STATE, () -> with(x(0)).machine(0));
        Selfkindle s = with(let(0, num(1), let(1, fn(2, two(0, x(0), x(2))), handle(3, app(x(1), num(4)), x(3)))));
        int[][] dues = {{1, 1, 1, 0, 0, 0}, {2, 2, 0, 1, 0, 0}, {7, 3, 1, 1, 0, 0}, {8, 4, 0, 2, 0, 0}, {9, 5, 0, 2, 0, 1}, {10, 6, 1, 2, 0, 1},
            {11, 7, 2, 2, 0, 1}, {3, 8, 0, 2, 1, 1}, {4, 9, 1, 2, 1, 1}, {5, 10, 2, 2, 1, 1}, {6, 11, 1, 2, 1, 1}, {12, 12, 1, 2, 0, 1}, {15, 13, 1, 2, 0, 0},
            {16, 14, 1, 1, 0, 0}, {17, 15, 1, 0, 0, 0}};
        for (int[] row : dues) {
            s.go(1);
            for (int what = 0; what < 6; what++) {
                due(row[what], s.machine(what));
            }
        }
        due(Selfkindle.NUMBER, s.state());
        due(5, s.value());
        Selfkindle raised = with(two(0, num(5), raise(num(6))));
        raised.go(9);
        int[] due = {2, 2, 2, 0, 0, 0};
        for (int what = 0; what < 6; what++) {
            due(due[what], raised.machine(what));
        }
    }

    // ---- the interpreter

    private static void stateAnew() {
        at("promise 27");
        refuses(STATE, () -> new Selfkindle().stateAnew());
        refuses(STATE, () -> with(x(0)).stateAnew());
        refuses(STATE, () -> with(half(0, num(1))).stateAnew());
        due(Selfkindle.NUMBER, with(num(1)).stateAnew());
        due(Selfkindle.FUNCTION, with(fn(0, x(0))).stateAnew());
        due(Selfkindle.PAIR_OF, with(pair(num(1), num(2))).stateAnew());
        due(Selfkindle.RAISED, with(raise(num(1))).stateAnew());
        due(Selfkindle.TIRED, with(rec(0, 1, app(x(0), x(1)), app(x(0), num(1)))).stateAnew());
        due(Selfkindle.TIRED, with(handle(2, rec(0, 1, app(x(0), x(1)), app(x(0), num(1))), x(2))).stateAnew());
        Selfkindle s = with(two(0, num(1), num(2)));
        s.go(1);
        due(Selfkindle.NUMBER, s.stateAnew());
        due(1, s.machine(1));
        Selfkindle told = with(let(0, num(1), x(0)));
        told.optimise(Selfkindle.INLINE);
        due(Selfkindle.NUMBER, told.stateAnew());
        tell(told, raise(num(3)));
        told.program();
        due(Selfkindle.RAISED, told.stateAnew());
    }

    private static void stateAnewLimits() {
        at("120 terms within one another");
        due(Selfkindle.NUMBER, with(countdown(next(), 58)).stateAnew());
        due(Selfkindle.TIRED, with(two(0, countdown(next(), 58), num(1))).stateAnew());
        due(Selfkindle.NUMBER, with(two(0, countdown(next(), 57), num(1))).stateAnew());
        due(Selfkindle.TIRED, with(countdown(next(), 59)).stateAnew());
        at("500 calls");
        Model.Tree twice = two(0, next(), next());
        Model.Tree sum = app(x(0), num(0));
        for (int from : new int[] {0, 2, 3, 4, 5, 6, 7}) {
            sum = two(0, app(x(0), num(from)), sum);
        }
        Model.Tree body = when(x(1), twice, num(1));
        Selfkindle most = with(rec(0, 1, body, sum));
        due(Selfkindle.NUMBER, most.stateAnew());
        due(254, most.valueAnew());
        Selfkindle more = with(rec(0, 1, body, two(0, app(x(0), num(0)), sum)));
        due(Selfkindle.TIRED, more.stateAnew());
        refuses(STATE, () -> more.valueAnew());
    }

    private static void valueAnew() {
        at("promise 28");
        refuses(STATE, () -> new Selfkindle().valueAnew());
        refuses(STATE, () -> with(x(0)).valueAnew());
        refuses(STATE, () -> with(fn(0, x(0))).valueAnew());
        refuses(STATE, () -> with(pair(num(1), num(2))).valueAnew());
        due(9, with(raise(num(9))).valueAnew());
        due(-9, with(two(1, num(0), num(9))).valueAnew());
        due(24, with(rec(0, 1, when(x(1), two(2, x(1), next()), num(1)), app(x(0), num(4)))).valueAnew());
        due(5, with(let(0, num(5), let(1, fn(2, x(0)), let(0, num(6), app(x(1), num(7)))))).valueAnew());
    }
}
