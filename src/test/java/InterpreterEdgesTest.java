/** The sentences of promises 27 and 28 that name an edge, each with a test of its own. */
public final class InterpreterEdgesTest extends Checking {
    public static void main(String[] args) {
        refused();
        states();
        within();
        leaves();
        calls();
        tired();
        asTold();
        finish();
    }

    private static void anew(int state, Model.Tree tree) {
        Selfkindle s = with(tree);
        due(0, s.fault());
        due(state, s.stateAnew());
    }

    private static void found(Model.Tree tree) {
        anew(Selfkindle.NUMBER, tree);
    }

    private static void tired(Model.Tree tree) {
        anew(Selfkindle.TIRED, tree);
        refuses(STATE, () -> with(tree).valueAnew());
    }

    private static void refused() {
        holds("stateAnew: refused, if there is no program, or it is wrong", () -> {
            refuses(STATE, () -> new Selfkindle().stateAnew());
            refuses(STATE, () -> with(x(0)).stateAnew());
            refuses(STATE, () -> with(app(num(1), num(1))).stateAnew());
        });
        holds("valueAnew: refused, if there is no program, or it is wrong", () -> {
            refuses(STATE, () -> new Selfkindle().valueAnew());
            refuses(STATE, () -> with(x(0)).valueAnew());
            refuses(STATE, () -> with(app(num(1), num(1))).valueAnew());
        });
        holds("valueAnew: refused, if there is no such number", () -> {
            refuses(STATE, () -> with(fn(0, x(0))).valueAnew());
            refuses(STATE, () -> with(pair(num(1), num(2))).valueAnew());
            refuses(STATE, () -> with(countdown(next(), 59)).valueAnew());
        });
        holds("valueAnew: the number that it gives, or that is raised", () -> {
            due(Long.MIN_VALUE, with(num(Long.MIN_VALUE)).valueAnew());
            due(0, with(raise(num(0))).valueAnew());
            due(Long.MAX_VALUE, with(pair(num(3), raise(num(Long.MAX_VALUE)))).valueAnew());
        });
    }

    private static void states() {
        holds("stateAnew: NUMBER to RAISED", () -> {
            anew(Selfkindle.NUMBER, num(1));
            anew(Selfkindle.FUNCTION, fn(0, num(1)));
            anew(Selfkindle.FUNCTION, rec(0, 1, x(1), x(0)));
            anew(Selfkindle.PAIR_OF, pair(num(1), num(2)));
            anew(Selfkindle.RAISED, raise(num(1)));
        });
        holds("stateAnew: raised in every part, in its place", () -> {
            Model.Tree first = raise(num(1));
            Model.Tree second = raise(num(2));
            Model.Tree[] all = {two(0, first, second), pair(first, second), app(first, second), let(0, first, second), half(0, first), raise(first),
                when(first, second, second), handle(0, num(5), second), handle(0, first, two(0, x(0), num(4))), rec(0, 1, second, first)};
            for (int i = 0; i < all.length; i++) {
                due(i < 7 || i > 8 ? 1 : 5, with(all[i]).valueAnew());
            }
        });
        holds("stateAnew: a term that is not come to is not found", () -> {
            gives(4, when(num(0), raise(num(1)), num(4)));
            gives(4, when(num(-1), num(4), raise(num(1))));
            gives(4, handle(0, num(4), raise(num(1))));
            gives(4, let(0, fn(1, raise(num(1))), num(4)));
            gives(4, rec(0, 1, raise(num(1)), num(4)));
        });
    }

    // ---- 120 terms within one another

    /** The deepest terms are the numbers and names in the last call: 4 + 2 * from of them are within one another. */
    private static Model.Tree deep(int from) {
        return countdown(next(), from);
    }

    private static Model.Tree around(Model.Tree term) {
        return half(0, pair(term, num(0)));
    }

    private static void within() {
        holds("at most 120 terms within one another: 118, 120, 122", () -> {
            found(deep(57));
            found(deep(58));
            tired(deep(59));
        });
        holds("at most 120 terms within one another: 119, 121", () -> {
            found(two(0, deep(57), num(1)));
            tired(two(0, deep(58), num(1)));
        });
        holds("the program is one of them", () -> {
            found(around(deep(57)));
            tired(two(0, around(deep(57)), num(1)));
        });
        Model.Tree[][] all = {{two(0, deep(57), num(1)), two(0, deep(58), num(1))}, {two(0, num(1), deep(57)), two(0, num(1), deep(58))},
            {let(2, deep(57), num(1)), let(2, deep(58), num(1))}, {let(2, num(1), deep(57)), let(2, num(1), deep(58))},
            {rec(2, 3, num(1), deep(57)), rec(2, 3, num(1), deep(58))}, {when(deep(57), num(1), num(1)), when(deep(58), num(1), num(1))},
            {when(num(1), deep(57), num(1)), when(num(1), deep(58), num(1))}, {when(num(0), num(1), deep(57)), when(num(0), num(1), deep(58))},
            {handle(2, deep(57), num(1)), handle(2, deep(58), num(1))}, {handle(2, raise(num(1)), deep(57)), handle(2, raise(num(1)), deep(58))},
            {app(fn(2, deep(57)), num(1)), app(fn(2, deep(58)), num(1))}, {app(fn(2, num(1)), deep(57)), app(fn(2, num(1)), deep(58))}};
        for (int i = 0; i < all.length; i++) {
            Model.Tree[] both = all[i];
            holds("a part is within its term: " + i, () -> {
                found(both[0]);
                tired(both[1]);
            });
        }
        holds("a part is within its term: a raise, a half, a pair", () -> {
            anew(Selfkindle.RAISED, raise(deep(57)));
            tired(raise(deep(58)));
            anew(Selfkindle.PAIR_OF, pair(deep(57), num(1)));
            tired(pair(deep(58), num(1)));
            anew(Selfkindle.PAIR_OF, pair(num(1), deep(57)));
            tired(pair(num(1), deep(58)));
            tired(half(0, pair(deep(58), num(1))));
        });
        holds("terms that are found behind one another are not within one another", () -> {
            found(two(0, deep(57), deep(57)));
            found(let(5, deep(57), two(0, num(1), deep(56))));
            found(handle(2, raise(deep(56)), deep(57)));
        });
    }

    /** One more leaf, of a kind, within the last call, behind raise: 5 + 2 * from within one another. */
    private static Model.Tree last(Model.Tree leaf, int from) {
        return countdown(next(), raise(leaf), from);
    }

    private static void leaves() {
        holds("numbers with them", () -> {
            anew(Selfkindle.RAISED, around0(last(num(1), 57)));
            tired(last(num(1), 58));
        });
        holds("names with them", () -> {
            anew(Selfkindle.RAISED, around0(last(x(1), 57)));
            tired(last(x(1), 58));
        });
        holds("functions with them, but not what is in one", () -> {
            found(around0(countdown(next(), let(3, fn(4, num(1)), num(5)), 57)));
            tired(countdown(next(), let(3, fn(4, num(1)), num(5)), 58));
            found(countdown(next(), let(3, fn(4, two(0, num(1), two(0, num(2), num(3)))), num(5)), 57));
            found(around0(countdown(next(), let(3, fn(4, two(0, num(1), two(0, num(2), num(3)))), num(5)), 57)));
        });
        holds("the body of a rec only when it is called", () -> {
            found(around0(countdown(next(), rec(3, 4, two(0, num(1), two(0, num(2), num(3))), num(5)), 57)));
            tired(countdown(next(), rec(3, 4, num(1), num(5)), 58));
        });
    }

    /** One more term around, which gives what is in it. */
    private static Model.Tree around0(Model.Tree term) {
        return two(0, term, num(0));
    }

    // ---- 500 calls

    /** Calls of name 0, each of which calls twice up to 0: 2^(n + 1) - 1 calls for n. */
    private static Model.Tree called(int... numbers) {
        Model.Tree sum = num(0);
        for (int number : numbers) {
            sum = two(0, sum, app(x(0), num(number)));
        }
        return rec(0, 1, when(x(1), two(0, next(), next()), num(1)), sum);
    }

    private static void calls() {
        holds("at most 500 calls: 499", () -> found(called(7, 6, 5, 4, 3, 2, 0)));
        holds("at most 500 calls: 500", () -> {
            found(called(7, 6, 5, 4, 3, 2, 0, 0));
            due(128 + 64 + 32 + 16 + 8 + 4 + 1 + 1, with(called(7, 6, 5, 4, 3, 2, 0, 0)).valueAnew());
        });
        holds("at most 500 calls: 501", () -> tired(called(7, 6, 5, 4, 3, 2, 0, 0, 0)));
        holds("at most 500 calls: far more", () -> tired(called(30)));
        holds("at most 500 calls: a raise behind 500", () -> {
            anew(Selfkindle.RAISED, raise(called(7, 6, 5, 4, 3, 2, 0, 0)));
            due(254, with(raise(called(7, 6, 5, 4, 3, 2, 0, 0))).valueAnew());
            tired(raise(called(7, 6, 5, 4, 3, 2, 0, 0, 0)));
        });
        holds("at most 500 calls: a call that is raised out of counts, one that is not made does not", () -> {
            Model.Tree calls = called(7, 6, 5, 4, 3, 2, 0);
            found(handle(5, app(fn(4, raise(x(4))), calls), x(5)));
            tired(handle(5, app(fn(4, app(fn(3, raise(x(3))), x(4))), calls), x(5)));
            found(handle(5, app(fn(4, num(1)), app(fn(3, num(2)), raise(calls))), x(5)));
        });
        holds("at most 500 calls: other orders of the machine are no matter", () -> {
            Selfkindle s = with(called(7, 6, 5, 4, 3, 2, 0, 0));
            s.go(2000);
            due(Selfkindle.TIRED, s.go(1));
            due(Selfkindle.NUMBER, s.stateAnew());
        });
    }

    private static void tired() {
        holds("TIRED if it would take more: no handler takes that", () -> {
            tired(handle(5, deep(59), num(4)));
            tired(handle(5, called(30), num(4)));
            tired(countdown(handle(5, next(), x(5)), 60));
        });
        holds("TIRED if it would take more, not if the machine would", () -> {
            Selfkindle s = with(busy(5, true));
            due(Selfkindle.TIRED, s.stateAnew());
            Selfkindle t = with(countdown(next(), 100));
            due(Selfkindle.TIRED, t.stateAnew());
            due(Selfkindle.NUMBER, t.go(2000));
        });
        holds("TIRED of a program without an end", () -> {
            tired(rec(0, 1, app(x(0), x(1)), app(x(0), num(1))));
            tired(rec(0, 1, handle(2, app(x(0), x(1)), num(1)), app(x(0), num(1))));
            tired(rec(0, 1, two(0, app(x(0), x(1)), app(x(0), x(1))), app(x(0), num(1))));
        });
        holds("a program behind one that was TIRED, on the same object", () -> {
            Selfkindle s = with(called(30));
            due(Selfkindle.TIRED, s.stateAnew());
            tell(s, called(7, 6, 5, 4, 3, 2, 0, 0));
            s.program();
            due(Selfkindle.NUMBER, s.stateAnew());
            due(254, s.valueAnew());
            tell(s, deep(58));
            s.program();
            due(Selfkindle.NUMBER, s.stateAnew());
        });
    }

    private static void asTold() {
        holds("the program, as it was told", () -> {
            Selfkindle s = with(two(0, deep(58), num(1)));
            due(Selfkindle.TIRED, s.stateAnew());
            Selfkindle t = with(when(num(1), num(4), deep(58)));
            t.optimise(15);
            due(1, t.size());
            due(4, t.valueAnew());
            Selfkindle u = with(half(0, pair(num(4), let(1, deep(58), num(3)))));
            u.optimise(15);
            due(Selfkindle.TIRED, u.stateAnew());
            Selfkindle v = with(two(0, num(1), when(num(1), num(2), app(fn(0, x(0)), num(3)))));
            v.optimise(Selfkindle.FOLD);
            due(3, v.valueAnew());
        });
        holds("the machine is left where it is", () -> {
            Selfkindle s = with(countdown(next(), 3));
            s.stop(5, true);
            s.go(2000);
            s.go(1);
            int place = s.machine(0);
            int steps = s.machine(1);
            due(Selfkindle.NUMBER, s.stateAnew());
            due(8, s.valueAnew());
            due(Selfkindle.GOING, s.state());
            due(place, s.machine(0));
            due(steps, s.machine(1));
            due(true, s.stop(5, false));
            due(Selfkindle.NUMBER, s.go(2000));
        });
        holds("one program behind another, to the last of 512 calls", () -> {
            Model.Tree last = num(0);
            for (int i = 0; i < 19; i++) {
                last = two(0, last, num(1));
            }
            Model.Tree dear = rec(0, 1, when(x(1), two(0, next(), next()), last), app(x(0), num(7)));
            Selfkindle s = new Selfkindle();
            for (int i = 0; i < 8; i++) {
                tell(s, dear);
                s.program();
                due(Selfkindle.NUMBER, s.stateAnew());
                due(19 * 128, s.valueAnew());
            }
        });
        holds("asked again, it is the same", () -> {
            Selfkindle s = with(called(7, 6, 5, 4, 3, 2, 0, 0));
            for (int i = 0; i < 3; i++) {
                due(Selfkindle.NUMBER, s.stateAnew());
                due(254, s.valueAnew());
            }
        });
    }
}
