/** The sentences under "Orders" that tell the row, and those of promises 19 to 21, that name an edge, each with a test of its own. */
public final class OrdersEdgesTest extends Checking {
    public static void main(String[] args) {
        each();
        nested();
        nearer();
        largest();
        orders();
        order();
        stop();
        finish();
    }

    // ---- the row

    private static void each() {
        holds("a number: NUM with it", () -> code(with(num(Long.MIN_VALUE)), 0, Long.MIN_VALUE));
        holds("a name: GET with how many names are bound nearer", () -> code(with(fn(0, x(0))), 2, 2, 1, 0, 4, 0));
        holds("a function: FN k, its body, RETURN", () -> {
            code(with(fn(0, num(3))), 2, 2, 0, 3, 4, 0);
            code(with(fn(0, two(1, num(3), num(4)))), 2, 4, 0, 3, 0, 4, 8, 1, 4, 0);
        });
        holds("a call: called, value, CALL", () -> code(with(app(fn(0, num(3)), num(4))), 2, 2, 0, 3, 4, 0, 0, 4, 3, 0));
        for (int i = 0; i < 4; i++) {
            int sign = i;
            holds("two: first, second, TWO with the sign " + i, () -> code(with(two(sign, num(3), num(4))), 0, 3, 0, 4, 8, sign));
        }
        holds("an if: first, IF k, second, ELSE k, third", () -> {
            code(with(when(num(1), num(2), num(3))), 0, 1, 9, 2, 0, 2, 10, 1, 0, 3);
            code(with(when(two(3, num(1), num(4)), two(0, num(2), num(5)), two(1, two(2, num(3), num(6)), num(7)))),
                0, 1, 0, 4, 8, 3, 9, 4, 0, 2, 0, 5, 8, 0, 10, 5, 0, 3, 0, 6, 8, 2, 0, 7, 8, 1);
        });
        holds("a let: value, BIND, body, UNBIND", () -> code(with(let(0, num(1), num(2))), 0, 1, 5, 0, 0, 2, 6, 0));
        holds("a rec: REC k, body, RETURN, BIND, rest, UNBIND", () -> {
            code(with(rec(0, 1, num(2), num(3))), 7, 2, 0, 2, 4, 0, 5, 0, 0, 3, 6, 0);
            code(with(rec(0, 1, raise(num(2)), num(3))), 7, 3, 0, 2, 13, 0, 4, 0, 5, 0, 0, 3, 6, 0);
        });
        holds("a pair: both, PAIR", () -> code(with(pair(num(1), num(2))), 0, 1, 0, 2, 11, 0));
        holds("a half: term, HALF 0 or 1", () -> {
            code(with(half(0, pair(num(1), num(2)))), 0, 1, 0, 2, 11, 0, 12, 0);
            code(with(half(1, pair(num(1), num(2)))), 0, 1, 0, 2, 11, 0, 12, 1);
        });
        holds("a raise: term, RAISE", () -> code(with(raise(num(1))), 0, 1, 13, 0));
        holds("a handler: TRY k, body, END k, clause, UNBIND", () -> {
            code(with(handle(0, num(1), num(2))), 14, 2, 0, 1, 15, 2, 0, 2, 6, 0);
            code(with(handle(0, raise(num(1)), two(0, x(0), num(3)))), 14, 3, 0, 1, 13, 0, 15, 4, 1, 0, 0, 3, 8, 0, 6, 0);
        });
    }

    private static void nested() {
        holds("k is counted beyond the next one, also of what is in one another", () -> {
            code(with(when(when(num(1), num(2), num(3)), when(num(4), num(5), num(6)), num(7))),
                0, 1, 9, 2, 0, 2, 10, 1, 0, 3, 9, 6, 0, 4, 9, 2, 0, 5, 10, 1, 0, 6, 10, 1, 0, 7);
            code(with(handle(0, handle(1, num(1), num(2)), handle(2, num(3), num(4)))),
                14, 6, 14, 2, 0, 1, 15, 2, 0, 2, 6, 0, 15, 6, 14, 2, 0, 3, 15, 2, 0, 4, 6, 0, 6, 0);
            code(with(rec(0, 1, rec(2, 3, num(4), num(5)), rec(4, 5, num(6), num(7)))),
                7, 7, 7, 2, 0, 4, 4, 0, 5, 0, 0, 5, 6, 0, 4, 0, 5, 0, 7, 2, 0, 6, 4, 0, 5, 0, 0, 7, 6, 0, 6, 0);
        });
    }

    /** The number of the only GET, which stands behind so many orders. */
    private static void get(int due, int place, Model.Tree tree) {
        Selfkindle s = with(tree);
        due(Selfkindle.GET, s.order(place, 0));
        due(due, s.order(place, 1));
    }

    private static void nearer() {
        holds("how many names are bound nearer: by functions", () -> get(1, 2, fn(0, fn(1, x(0)))));
        holds("how many names are bound nearer: by a let, in its body alone", () -> {
            get(1, 3, fn(0, let(1, num(1), x(0))));
            get(0, 1, fn(0, let(1, x(0), num(1))));
        });
        holds("how many names are bound nearer: by a rec, two in the body, one in the rest", () -> {
            get(2, 2, fn(0, rec(1, 2, x(0), num(1))));
            get(1, 5, fn(0, rec(1, 2, num(1), x(0))));
        });
        holds("how many names are bound nearer: in the body of a rec x is nearer than f", () -> {
            get(0, 1, rec(1, 2, x(2), num(1)));
            get(1, 1, rec(1, 2, app(x(1), num(1)), num(1)));
            get(0, 4, rec(1, 2, num(1), x(1)));
        });
        holds("how many names are bound nearer: f and x the same", () -> {
            get(0, 1, rec(1, 1, x(1), num(1)));
            get(2, 2, fn(0, rec(1, 1, x(0), num(1))));
        });
        holds("how many names are bound nearer: by a handler, in its clause alone", () -> {
            get(0, 2, fn(0, handle(1, x(0), num(1))));
            get(1, 4, fn(0, handle(1, num(1), x(0))));
        });
        holds("how many names are bound nearer: the same name too", () -> get(2, 5, fn(0, let(1, num(1), let(1, num(2), x(0))))));
        holds("how many names are bound nearer: 58 at most", () -> {
            Model.Tree term = x(0);
            for (int i = 0; i < 58; i++) {
                term = fn(1, term);
            }
            get(58, 59, fn(0, term));
        });
    }

    /** 29 recs, each in the body of another one, with 30 leaves, in a function: 29 times 4 orders, and 30, and 2. */
    private static Model.Tree most() {
        Model.Tree term = x(1);
        for (int i = 0; i < 29; i++) {
            term = rec(0, 1, term, num(i));
        }
        return fn(0, term);
    }

    private static void largest() {
        holds("as many orders as 60 parts can have", () -> {
            Selfkindle s = with(most());
            due(60, s.size());
            due(148, s.orders());
            due(Selfkindle.FN, s.order(0, 0));
            due(147, s.order(0, 1));
            due(142, s.order(1, 1));
            due(Selfkindle.RETURN, s.order(147, 0));
            due(Selfkindle.UNBIND, s.order(146, 0));
            due(28, s.order(145, 1));
            refuses(INDEX, () -> s.order(148, 0));
            refuses(INDEX, () -> s.stop(148, true));
            due(false, s.stop(147, true));
            due(true, s.stop(147, false));
            due(Selfkindle.FUNCTION, s.go(1));
            due(148, s.machine(0));
        });
    }

    // ---- promises 19 to 21

    private static void orders() {
        holds("orders: 1 at least", () -> due(1, with(num(1)).orders()));
        holds("orders: by now", () -> {
            Selfkindle s = with(two(0, num(1), num(2)));
            due(3, s.orders());
            s.go(2);
            due(3, s.orders());
            s.optimise(1);
            due(1, s.orders());
        });
        holds("orders: without a program, or of a wrong one", () -> {
            refuses(STATE, () -> new Selfkindle().orders());
            refuses(STATE, () -> with(x(0)).orders());
            refuses(STATE, () -> with(app(num(1), num(1))).orders());
        });
    }

    private static void order() {
        holds("order: the first and the last one, and none ahead of and behind them", () -> {
            Selfkindle s = with(two(3, num(5), num(6)));
            refuses(INDEX, () -> s.order(-1, 0));
            due(Selfkindle.NUM, s.order(0, 0));
            due(Selfkindle.TWO, s.order(2, 0));
            refuses(INDEX, () -> s.order(3, 0));
            refuses(INDEX, () -> s.order(Integer.MIN_VALUE, 0));
            refuses(INDEX, () -> s.order(Integer.MAX_VALUE, 0));
        });
        holds("order: what is 0 to 2", () -> {
            Selfkindle s = with(two(3, num(5), num(6)));
            refuses(ARGUMENT, () -> s.order(0, -1));
            refuses(ARGUMENT, () -> s.order(0, 3));
            refuses(ARGUMENT, () -> s.order(0, Integer.MIN_VALUE));
            refuses(ARGUMENT, () -> s.order(0, Integer.MAX_VALUE));
            due(0, s.order(0, 0));
            due(5, s.order(0, 1));
            due(0, s.order(0, 2));
        });
        holds("order: no such order ahead of what", () -> refuses(INDEX, () -> with(num(1)).order(1, 3)));
        holds("order: without a program, or of a wrong one", () -> {
            refuses(INDEX, () -> new Selfkindle().order(0, 0));
            refuses(INDEX, () -> with(x(0)).order(0, 0));
            refuses(INDEX, () -> with(app(num(1), num(1))).order(0, 0));
        });
        holds("order: a number, 0 where none is told", () -> {
            Selfkindle s = with(let(0, pair(num(7), num(8)), app(fn(1, raise(x(1))), half(1, x(0)))));
            due(0, s.order(2, 1));
            due(0, s.order(3, 1));
            due(0, s.order(6, 1));
            due(0, s.order(7, 1));
            due(0, s.order(10, 1));
            due(0, s.order(11, 1));
        });
        counts();
    }

    private static void counts() {
        holds("order: how often it was done, 0 ahead of it", () -> {
            Selfkindle s = with(countdown(next(), 2));
            due(0, s.order(0, 2));
            s.go(1);
            due(1, s.order(0, 2));
            due(0, s.order(1, 2));
            s.go(2000);
            due(3, s.order(1, 2));
            due(3, s.order(10, 2));
            due(2, s.order(7, 2));
            due(1, s.order(9, 2));
        });
        holds("order: how often it was done since the program began", () -> {
            Selfkindle s = with(countdown(next(), 2));
            s.go(2000);
            s.again();
            due(0, s.order(1, 2));
            s.go(6);
            due(1, s.order(1, 2));
            s.optimise(0);
            due(0, s.order(1, 2));
        });
        holds("order: one that could not be done was not done", () -> {
            Selfkindle raised = with(raise(num(1)));
            due(Selfkindle.RAISED, raised.go(5));
            due(1, raised.order(0, 2));
            due(0, raised.order(1, 2));
            Selfkindle tired = with(countdown(next(), 200));
            due(Selfkindle.TIRED, tired.go(2000));
            due(199, tired.order(7, 2));
            due(200, tired.order(6, 2));
        });
    }

    private static void stop() {
        holds("stop: the first and the last one, and none ahead of and behind them", () -> {
            Selfkindle s = with(two(3, num(5), num(6)));
            refuses(INDEX, () -> s.stop(-1, true));
            due(false, s.stop(0, true));
            due(false, s.stop(2, true));
            refuses(INDEX, () -> s.stop(3, true));
            refuses(INDEX, () -> s.stop(3, false));
            refuses(INDEX, () -> s.stop(Integer.MIN_VALUE, true));
            refuses(INDEX, () -> s.stop(Integer.MAX_VALUE, true));
        });
        holds("stop: without a program, or of a wrong one", () -> {
            refuses(INDEX, () -> new Selfkindle().stop(0, true));
            refuses(INDEX, () -> with(x(0)).stop(0, true));
            refuses(INDEX, () -> with(app(num(1), num(1))).stop(0, false));
        });
        holds("stop: whether it did", () -> {
            Selfkindle s = with(two(3, num(5), num(6)));
            due(false, s.stop(1, false));
            due(false, s.stop(1, true));
            due(true, s.stop(1, true));
            due(false, s.stop(2, true));
            due(true, s.stop(1, false));
            due(false, s.stop(1, false));
            due(true, s.stop(2, false));
        });
        holds("stop: no more", () -> {
            Selfkindle s = with(two(3, num(5), num(6)));
            s.stop(1, true);
            s.stop(2, true);
            s.stop(1, false);
            due(Selfkindle.GOING, s.go(2000));
            due(2, s.machine(0));
        });
        holds("stop: kept when the program ends and begins again", () -> {
            Selfkindle s = with(two(3, num(5), num(6)));
            s.stop(1, true);
            due(Selfkindle.GOING, s.go(2000));
            due(Selfkindle.NUMBER, s.go(2000));
            s.again();
            due(Selfkindle.GOING, s.go(2000));
            due(1, s.machine(0));
            due(true, s.stop(1, true));
        });
        holds("stop: passes and another program forget that", () -> {
            Selfkindle s = with(two(3, num(5), num(6)));
            s.stop(1, true);
            s.optimise(8);
            due(false, s.stop(1, true));
            tell(s, two(3, num(5), num(6)));
            s.program();
            due(false, s.stop(1, true));
            tell(s, x(0));
            s.program();
            tell(s, two(3, num(5), num(6)));
            s.program();
            due(false, s.stop(1, false));
            due(Selfkindle.NUMBER, s.go(2000));
        });
    }
}
