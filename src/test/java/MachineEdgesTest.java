/** The sentences under "Orders" that tell of the machine, and those of promises 22 to 26, that name an edge, each with a test of its own. */
public final class MachineEdgesTest extends Checking {
    public static void main(String[] args) {
        steps();
        atOnce();
        stops();
        atLast();
        raised();
        limitOfSteps();
        limitOfCalls();
        limitOfTries();
        goingOn();
        again();
        state();
        value();
        machine();
        finish();
    }

    private static void ends(int state, Model.Tree tree) {
        Selfkindle s = with(tree);
        due(0, s.fault());
        due(state, s.go(2000));
        due(state, s.state());
    }

    /** Goes on to the end, at most so many steps at once. */
    private static Selfkindle run(Model.Tree tree, int steps) {
        Selfkindle s = with(tree);
        goOn(s, steps);
        return s;
    }

    private static Model.Tree sums(int sums) {
        Model.Tree sum = num(0);
        for (int i = 0; i < sums; i++) {
            sum = two(0, sum, num(1));
        }
        return sum;
    }

    // ---- promise 22

    private static void steps() {
        for (int steps : new int[] {Integer.MIN_VALUE, -1, 0, 2001, Integer.MAX_VALUE}) {
            holds("go: steps 1 to 2000, not " + steps, () -> {
                refuses(ARGUMENT, () -> with(num(1)).go(steps));
                refuses(ARGUMENT, () -> new Selfkindle().go(steps));
                refuses(ARGUMENT, () -> with(x(0)).go(steps));
                refuses(ARGUMENT, () -> run(num(1), 1).go(steps));
            });
        }
        holds("go: 1 step", () -> {
            Selfkindle s = with(sums(2));
            for (int i = 1; i < 5; i++) {
                due(Selfkindle.GOING, s.go(1));
                due(i, s.machine(1));
                due(i, s.machine(0));
            }
            due(Selfkindle.NUMBER, s.go(1));
        });
        holds("go: 2000 steps", () -> {
            Selfkindle s = with(busy(5, true));
            due(Selfkindle.GOING, s.go(2000));
            due(2000, s.machine(1));
        });
        holds("go: at most so many steps, also over several calls", () -> {
            for (int steps : new int[] {1, 2, 3, 7, 1999, 2000}) {
                Selfkindle s = with(countdown(next(), 3));
                int did = 0;
                for (int i = 0; i < 100 && s.go(steps) == Selfkindle.GOING; i++) {
                    did += steps;
                    due(did, s.machine(1));
                }
                due(8, s.value());
                due(5 + 3 * 7 + 4 + 3 * 2 + 1, s.machine(1));
            }
        });
        holds("go: refused, if there is no program, or it is wrong", () -> {
            refuses(STATE, () -> new Selfkindle().go(1));
            refuses(STATE, () -> with(x(0)).go(1));
            refuses(STATE, () -> with(app(num(1), num(1))).go(2000));
        });
        holds("go: refused, if it is not GOING", () -> {
            Model.Tree[] ended = {num(1), fn(0, x(0)), pair(num(1), num(2)), raise(num(1)), countdown(next(), 200), busy(5, true)};
            for (int i = 0; i < ended.length; i++) {
                Selfkindle s = run(ended[i], 2000);
                due(i < 5 ? i + 1 : Selfkindle.TIRED, s.state());
                refuses(STATE, () -> s.go(1));
                refuses(STATE, () -> s.go(2000));
                due(i < 5 ? i + 1 : Selfkindle.TIRED, s.state());
            }
        });
    }

    private static void atOnce() {
        holds("go: the end is told at once", () -> {
            due(Selfkindle.NUMBER, with(num(1)).go(1));
            due(Selfkindle.FUNCTION, with(fn(0, x(0))).go(1));
            due(Selfkindle.PAIR_OF, with(pair(num(1), num(2))).go(3));
            due(Selfkindle.GOING, with(pair(num(1), num(2))).go(2));
            due(Selfkindle.NUMBER, with(let(0, num(1), x(0))).go(4));
        });
        holds("go: the end is told at once also behind a jump", () -> {
            Selfkindle s = with(when(num(1), num(2), num(3)));
            due(Selfkindle.GOING, s.go(3));
            due(Selfkindle.NUMBER, s.go(1));
            due(5, s.machine(0));
            due(2, s.value());
        });
        holds("go: a raise that nothing takes is told when it comes to it", () -> {
            Selfkindle s = with(raise(num(4)));
            due(Selfkindle.GOING, s.go(1));
            due(Selfkindle.RAISED, s.go(1));
            due(Selfkindle.RAISED, with(raise(num(4))).go(2));
        });
    }

    private static void stops() {
        holds("go: the first one in any case", () -> {
            Selfkindle s = with(sums(1));
            for (int i = 0; i < 3; i++) {
                s.stop(i, true);
            }
            due(Selfkindle.GOING, s.go(2000));
            due(1, s.machine(0));
            due(Selfkindle.GOING, s.go(2000));
            due(2, s.machine(0));
            due(Selfkindle.NUMBER, s.go(2000));
        });
        holds("go: until it comes to one at which it stops", () -> {
            Selfkindle s = with(sums(3));
            s.stop(4, true);
            due(Selfkindle.GOING, s.go(2000));
            due(4, s.machine(1));
            due(0, s.order(4, 2));
            due(Selfkindle.NUMBER, s.go(2000));
        });
        holds("go: not so far as one at which it would stop", () -> {
            Selfkindle s = with(sums(3));
            s.stop(4, true);
            due(Selfkindle.GOING, s.go(3));
            due(3, s.machine(0));
            due(Selfkindle.GOING, s.go(1));
            due(4, s.machine(0));
            due(Selfkindle.GOING, s.go(1));
            due(5, s.machine(0));
        });
        holds("go: stops where it goes by a jump", () -> {
            Selfkindle s = with(handle(0, app(fn(1, when(x(1), raise(x(1)), num(2))), num(3)), x(0)));
            int[] stops = {2, 7, 11, 12};
            for (int place : stops) {
                due(false, s.stop(place, true));
            }
            due(Selfkindle.FN, s.order(1, 0));
            due(Selfkindle.END, s.order(11, 0));
            due(Selfkindle.GOING, s.go(2000));
            due(2, s.machine(0));
            due(Selfkindle.GOING, s.go(2000));
            due(12, s.machine(0));
            due(Selfkindle.NUMBER, s.go(2000));
            due(3, s.value());
        });
        holds("go: stops at each time that it comes there", () -> {
            Selfkindle s = with(countdown(next(), 3));
            s.stop(1, true);
            for (int i = 0; i < 4; i++) {
                due(Selfkindle.GOING, s.go(2000));
                due(i, s.order(1, 2));
            }
            due(Selfkindle.NUMBER, s.go(2000));
        });
        holds("go: stops ahead of what could not be done", () -> {
            Selfkindle s = with(raise(num(4)));
            s.stop(1, true);
            due(Selfkindle.GOING, s.go(2000));
            due(Selfkindle.RAISED, s.go(2000));
            Selfkindle t = with(busy(5, true));
            t.go(2000);
            t.stop(t.machine(0), true);
            due(Selfkindle.GOING, t.state());
            due(Selfkindle.TIRED, t.go(2000));
        });
    }

    // ---- what the program gives

    private static void atLast() {
        holds("behind the last order the value on the stack is what the program gives", () -> {
            ends(Selfkindle.NUMBER, let(0, fn(1, x(1)), app(x(0), num(4))));
            ends(Selfkindle.FUNCTION, let(0, fn(1, x(1)), app(x(0), x(0))));
            ends(Selfkindle.FUNCTION, rec(0, 1, x(1), x(0)));
            ends(Selfkindle.PAIR_OF, let(0, pair(num(1), num(2)), x(0)));
            ends(Selfkindle.FUNCTION, half(1, pair(num(1), fn(0, x(0)))));
            ends(Selfkindle.RAISED, fnCalled(raise(num(1))));
        });
        holds("a value is alone on the stack at the end", () -> {
            Model.Tree[] all = {num(1), pair(num(1), pair(num(2), num(3))), countdown(next(), 5), handle(0, two(0, num(1), raise(num(2))), x(0))};
            for (Model.Tree tree : all) {
                Selfkindle s = run(tree, 2000);
                due(s.orders(), s.machine(0));
                due(1, s.machine(2));
                due(0, s.machine(3));
                due(0, s.machine(4));
                due(0, s.machine(5));
            }
        });
        holds("IF goes on by k, if it is 0", () -> {
            for (long number : new long[] {0L, 1L, -1L, 1L << 32, Long.MIN_VALUE}) {
                Selfkindle s = with(when(num(number), num(2), num(3)));
                s.go(2);
                due(number == 0L ? 4 : 2, s.machine(0));
                due(0, s.machine(2));
            }
        });
    }

    private static Model.Tree fnCalled(Model.Tree body) {
        return app(fn(0, body), num(7));
    }

    // ---- RAISE

    private static void raised() {
        holds("without a try the program is RAISED", () -> {
            ends(Selfkindle.RAISED, raise(num(4)));
            ends(Selfkindle.RAISED, two(0, num(1), raise(num(4))));
            ends(Selfkindle.RAISED, fnCalled(raise(x(0))));
        });
        holds("a try that ended by END is none", () -> ends(Selfkindle.RAISED, let(0, handle(1, num(1), num(2)), raise(num(3)))));
        holds("a try that ended by RAISE is none, in its clause", () -> {
            Selfkindle s = run(handle(0, raise(num(3)), raise(two(0, x(0), num(4)))), 2000);
            due(Selfkindle.RAISED, s.state());
            due(7, s.value());
        });
        holds("the innermost try, which ends", () -> {
            gives(14, handle(0, handle(1, raise(num(3)), num(14)), num(25)));
            gives(28, handle(0, handle(1, raise(num(3)), raise(two(0, x(1), num(25)))), x(0)));
            gives(5, handle(0, two(0, handle(1, num(3), num(14)), raise(num(5))), x(0)));
        });
        holds("all is as it was at the innermost try: values", () -> gives(111, two(0, num(100), two(0, num(4), handle(0, two(0, num(50), two(0, num(60), raise(num(7)))), x(0))))));
        holds("all is as it was at the innermost try: names", () -> gives(65, let(5, num(60), handle(0, let(1, num(1), let(2, num(2), raise(num(5)))), two(0, x(0), x(5))))));
        holds("all is as it was at the innermost try: calls", () -> gives(70, app(fn(5, two(0, x(5), handle(0, fnCalled(fnCalled(raise(num(9)))), two(0, x(0), num(1))))), num(60))));
        holds("all is as it was at the innermost try: tries", () -> {
            Selfkindle s = with(handle(0, handle(1, raise(num(3)), x(1)), num(4)));
            s.go(4);
            machineIs(s, 5, 4, 0, 1, 0, 1);
            due(Selfkindle.GET, s.order(s.machine(0), 0));
        });
        holds("the number is bound", () -> gives(Long.MIN_VALUE, handle(0, raise(num(Long.MIN_VALUE)), x(0))));
        holds("a try far around: every call and value between is gone", () -> {
            Selfkindle s = with(handle(3, countdown(two(0, num(1), next()), raise(num(44)), 60), x(3)));
            for (int i = 0; i < 2000 && (s.machine(5) == 1 || s.machine(1) == 0); i++) {
                s.go(1);
            }
            machineIs(s, s.machine(0), s.machine(1), 0, 1, 0, 0);
            due(61, s.order(2, 2));
            due(Selfkindle.NUMBER, s.go(2000));
            due(44, s.value());
        });
    }

    // ---- TIRED

    private static void limitOfSteps() {
        holds("behind 2000 steps, when one more would be: 1999, 2000 and 2001", () -> {
            Model.Tree[] all = {busy(3, true), busy(5, false), busy(4, true)};
            for (int i = 0; i < 3; i++) {
                Selfkindle s = run(all[i], 2000);
                due(i < 2 ? Selfkindle.NUMBER : Selfkindle.TIRED, s.state());
                due(Math.min(1999 + i, 2000), s.machine(1));
            }
        });
        holds("behind 2000 steps, over many calls", () -> {
            for (int steps : new int[] {1, 3, 7, 500, 1999}) {
                Selfkindle s = run(busy(4, true), steps);
                due(Selfkindle.TIRED, s.state());
                due(2000, s.machine(1));
                due(Selfkindle.NUMBER, run(busy(5, false), steps).state());
            }
        });
        holds("just 2000 steps, and not at the end: GOING, for no more would be yet", () -> {
            Selfkindle s = with(busy(4, true));
            due(Selfkindle.GOING, s.go(2000));
            due(Selfkindle.GOING, s.state());
            due(Selfkindle.TIRED, s.go(1));
            due(Selfkindle.TIRED, s.state());
        });
        holds("TIRED ahead of RAISED, behind 2000 steps", () -> {
            Selfkindle s = run(raise(busy(5, false)), 2000);
            due(Selfkindle.TIRED, s.state());
            due(Selfkindle.RAISE, s.order(s.machine(0), 0));
            refuses(STATE, () -> s.value());
            Selfkindle t = run(raise(busy(3, true)), 2000);
            due(Selfkindle.RAISED, t.state());
            due(1999, t.machine(1));
            due(11, t.value());
        });
        holds("TIRED also where a try would take what is raised", () -> due(Selfkindle.TIRED, run(handle(9, raise(busy(4, false)), let(8, x(9), x(8))), 2000).state()));
        holds("a RAISE that a try takes is a step", () -> {
            Selfkindle s = with(handle(9, raise(num(3)), num(4)));
            s.go(3);
            due(3, s.machine(1));
            due(1, s.order(2, 2));
        });
        holds("as it was ahead of the order that could not be done, behind 2000 steps", () -> {
            Selfkindle s = with(busy(4, true));
            s.go(2000);
            int[] was = new int[6];
            for (int what = 0; what < 6; what++) {
                was[what] = s.machine(what);
            }
            long times = s.order(was[0], 2);
            s.go(1);
            machineIs(s, was[0], was[1], was[2], was[3], was[4], was[5]);
            due(times, s.order(was[0], 2));
        });
    }

    private static void limitOfCalls() {
        holds("200 calls that go on, when one more would be", () -> {
            ends(Selfkindle.NUMBER, countdown(next(), 198));
            ends(Selfkindle.NUMBER, countdown(next(), 199));
            ends(Selfkindle.TIRED, countdown(next(), 200));
            ends(Selfkindle.TIRED, countdown(next(), 201));
        });
        holds("200 calls that go on: what is ahead of the one more", () -> {
            Selfkindle s = run(countdown(next(), 200), 2000);
            machineIs(s, 7, 5 + 199 * 7 + 6, 2, 2, 200, 0);
            due(Selfkindle.CALL, s.order(7, 0));
            due(200, s.order(6, 2));
            due(199, s.order(7, 2));
        });
        holds("200 calls that go on: no other order is refused then", () -> {
            Selfkindle s = run(countdown(next(), raise(num(6)), 199), 2000);
            due(Selfkindle.RAISED, s.state());
            due(200, s.machine(4));
            due(6, s.value());
            ends(Selfkindle.NUMBER, countdown(next(), half(0, pair(when(num(1), two(0, num(2), num(3)), num(4)), fn(5, x(5)))), 199));
            ends(Selfkindle.NUMBER, countdown(next(), let(3, num(2), rec(4, 5, x(5), x(3))), 199));
        });
        holds("200 calls that go on, and 2000 steps", () -> {
            Model.Tree deep = two(0, next(), num(0));
            ends(Selfkindle.GOING, countdown(deep, 199));
            due(Selfkindle.TIRED, run(countdown(deep, 199), 2000).state());
            due(2000, run(countdown(deep, 199), 2000).machine(1));
        });
    }

    private static void limitOfTries() {
        Model.Tree tries = handle(2, next(), x(2));
        holds("calls and tries together: a CALL would be the one more", () -> {
            ends(Selfkindle.NUMBER, handle(3, countdown(next(), 198), x(3)));
            Selfkindle s = run(handle(3, countdown(next(), 199), x(3)), 2000);
            due(Selfkindle.TIRED, s.state());
            due(Selfkindle.CALL, s.order(s.machine(0), 0));
            due(199, s.machine(4));
            due(1, s.machine(5));
        });
        holds("calls and tries together: a TRY would be the one more", () -> {
            Model.Tree last = handle(2, num(8), x(2));
            ends(Selfkindle.NUMBER, countdown(next(), last, 198));
            Selfkindle s = run(countdown(next(), last, 199), 2000);
            due(Selfkindle.TIRED, s.state());
            due(Selfkindle.TRY, s.order(s.machine(0), 0));
            due(200, s.machine(4));
            due(0, s.machine(5));
            due(0, s.order(s.machine(0), 2));
        });
        holds("calls and tries together: half of each", () -> {
            ends(Selfkindle.NUMBER, countdown(tries, 99));
            Selfkindle s = run(handle(3, countdown(tries, 99), x(3)), 2000);
            due(Selfkindle.NUMBER, s.state());
            Selfkindle more = run(handle(3, countdown(tries, 100), x(3)), 2000);
            due(Selfkindle.TIRED, more.state());
            due(100, more.machine(4));
            due(100, more.machine(5));
        });
        holds("200 calls and tries, and a RAISE that one of them takes", () -> {
            ends(Selfkindle.NUMBER, handle(3, countdown(tries, raise(num(1)), 99), x(3)));
            ends(Selfkindle.NUMBER, handle(3, countdown(next(), raise(num(1)), 198), x(3)));
        });
    }

    /** Name 0 is a function; name i calls name i - 1 so often; the last name is called once. */
    private static Model.Tree chain(Model.Tree function, int times, int names) {
        Model.Tree term = app(x(names), num(5));
        for (int i = names; i > 0; i--) {
            Model.Tree body = x(9);
            for (int k = 0; k < times; k++) {
                body = app(x(i - 1), body);
            }
            term = let(i, fn(9, body), term);
        }
        return let(0, function, term);
    }

    private static void goingOn() {
        holds("calls that go on: not those that have returned", () -> {
            Selfkindle s = run(chain(fn(9, x(9)), 3, 5), 2000);
            due(Selfkindle.NUMBER, s.state());
            due(5, s.value());
            due(243, s.order(1, 2));
        });
        holds("tries that go on: not those that ended by END", () -> {
            Selfkindle s = run(chain(fn(9, handle(8, x(9), x(8))), 6, 3), 2000);
            due(Selfkindle.NUMBER, s.state());
            due(216, s.order(1, 2));
            due(216, s.order(3, 2));
        });
        holds("tries that go on: not those that ended by RAISE", () -> {
            Selfkindle s = run(chain(fn(9, handle(8, raise(x(9)), x(8))), 6, 3), 2000);
            due(Selfkindle.NUMBER, s.state());
            due(5, s.value());
            due(216, s.order(1, 2));
            due(216, s.order(3, 2));
            due(0, s.order(4, 2));
        });
        holds("calls that go on: not those that a RAISE has left", () -> {
            Selfkindle s = run(chain(fn(9, handle(8, app(fn(7, raise(x(7))), x(9)), x(8))), 5, 3), 2000);
            due(Selfkindle.NUMBER, s.state());
            due(5, s.value());
            due(125, s.order(7, 2));
            due(125, s.order(4, 2));
            due(0, s.order(5, 2));
            due(0, s.machine(4));
        });
    }

    // ---- promises 23 to 26

    private static void again() {
        holds("again: refused, if there is no program, or it is wrong", () -> {
            refuses(STATE, () -> new Selfkindle().again());
            refuses(STATE, () -> with(x(0)).again());
            refuses(STATE, () -> with(app(num(1), num(1))).again());
        });
        holds("again: from every state", () -> {
            Model.Tree[] ended = {num(1), fn(0, x(0)), pair(num(1), num(2)), raise(num(1)), countdown(next(), 200), busy(4, true)};
            for (Model.Tree tree : ended) {
                Selfkindle s = run(tree, 2000);
                int state = s.state();
                int steps = s.machine(1);
                s.again();
                due(Selfkindle.GOING, s.state());
                machineIs(s, 0, 0, 0, 0, 0, 0);
                for (int i = 0; i < s.orders(); i++) {
                    due(0, s.order(i, 2));
                }
                goOn(s, 2000);
                due(state, s.state());
                due(steps, s.machine(1));
            }
        });
        holds("again: ahead of the first order, and amid calls and tries", () -> {
            Selfkindle s = with(handle(2, countdown(next(), 3), x(2)));
            s.again();
            machineIs(s, 0, 0, 0, 0, 0, 0);
            for (int steps = 1; steps < 40; steps++) {
                s.go(steps);
                s.again();
                machineIs(s, 0, 0, 0, 0, 0, 0);
                due(Selfkindle.NUMBER, s.go(2000));
                machineIs(s, s.orders(), 39, 1, 0, 0, 0);
                s.again();
            }
        });
        holds("again: the program as it is by now", () -> {
            Selfkindle s = with(two(0, num(1), num(2)));
            s.optimise(1);
            s.again();
            due(1, s.orders());
            due(Selfkindle.NUMBER, s.go(1));
        });
    }

    private static void state() {
        holds("state: refused, if there is no program, or it is wrong", () -> {
            refuses(STATE, () -> new Selfkindle().state());
            refuses(STATE, () -> with(x(0)).state());
            refuses(STATE, () -> with(app(num(1), num(1))).state());
        });
        holds("state: GOING up to the last order", () -> {
            Selfkindle s = with(sums(4));
            for (int i = 0; i < 9; i++) {
                due(Selfkindle.GOING, s.state());
                s.go(1);
            }
            due(Selfkindle.NUMBER, s.state());
        });
    }

    private static void value() {
        holds("value: refused, if there is no program, or it is wrong", () -> {
            refuses(STATE, () -> new Selfkindle().value());
            refuses(STATE, () -> with(x(0)).value());
            refuses(STATE, () -> with(app(num(1), num(1))).value());
        });
        holds("value: refused, if neither NUMBER nor RAISED", () -> {
            refuses(STATE, () -> with(num(1)).value());
            refuses(STATE, () -> run(fn(0, x(0)), 2000).value());
            refuses(STATE, () -> run(pair(num(1), num(2)), 2000).value());
            refuses(STATE, () -> run(countdown(next(), 200), 2000).value());
            refuses(STATE, () -> run(busy(4, true), 2000).value());
            Selfkindle s = with(sums(1));
            s.go(2);
            refuses(STATE, () -> s.value());
            s.go(1);
            due(1, s.value());
            s.again();
            refuses(STATE, () -> s.value());
        });
        holds("value: the number that the program gave, or that was raised", () -> {
            due(Long.MIN_VALUE, run(num(Long.MIN_VALUE), 1).value());
            due(Long.MAX_VALUE, run(raise(num(Long.MAX_VALUE)), 1).value());
            due(0, run(raise(num(0)), 1).value());
            due(6, run(pair(num(5), raise(num(6))), 1).value());
        });
    }

    private static void machine() {
        for (int what : new int[] {Integer.MIN_VALUE, -1, 6, Integer.MAX_VALUE}) {
            holds("machine: what is 0 to 5, not " + what, () -> {
                refuses(ARGUMENT, () -> with(num(1)).machine(what));
                refuses(ARGUMENT, () -> new Selfkindle().machine(what));
                refuses(ARGUMENT, () -> with(x(0)).machine(what));
            });
        }
        holds("machine: refused, if there is no program, or it is wrong", () -> {
            for (int i = 0; i < 6; i++) {
                int what = i;
                refuses(STATE, () -> new Selfkindle().machine(what));
                refuses(STATE, () -> with(x(0)).machine(what));
                refuses(STATE, () -> with(app(num(1), num(1))).machine(what));
            }
        });
        holds("machine: at the beginning, and at the end", () -> {
            Selfkindle s = with(num(1));
            machineIs(s, 0, 0, 0, 0, 0, 0);
            s.go(1);
            machineIs(s, 1, 1, 1, 0, 0, 0);
        });
        holds("machine: for RAISED as it was ahead of the order that could not be done", () -> {
            machineIs(run(raise(num(1)), 2000), 1, 1, 1, 0, 0, 0);
            machineIs(run(let(0, num(4), app(fn(1, pair(num(2), raise(x(1)))), num(3))), 2000), 5, 7, 2, 2, 1, 0);
        });
        bound();
    }

    private static void bound() {
        holds("machine: names that are bound where it is, of a function that was made elsewhere", () -> {
            Selfkindle s = with(let(0, fn(1, x(1)), let(2, num(2), let(3, num(3), app(x(0), x(3))))));
            s.go(2000);
            s.again();
            s.stop(1, true);
            due(Selfkindle.GOING, s.go(2000));
            machineIs(s, 1, 9, 0, 1, 1, 0);
            s.go(2);
            due(3, s.machine(3));
            due(0, s.machine(4));
        });
        holds("machine: names that are bound where it is, within a rec's function", () -> {
            Selfkindle s = with(countdown(next(), 199));
            s.go(1);
            due(0, s.machine(3));
            s.go(1);
            due(1, s.machine(3));
            s.stop(1, true);
            for (int i = 1; i < 6; i++) {
                s.go(2000);
                due(2, s.machine(3));
                due(i, s.machine(4));
                due(0, s.machine(2));
            }
        });
        holds("machine: names that are bound in a clause, and behind it", () -> {
            Selfkindle s = with(handle(0, raise(num(3)), two(0, x(0), num(1))));
            s.go(3);
            machineIs(s, 4, 3, 0, 1, 0, 0);
            s.go(3);
            machineIs(s, 7, 6, 1, 1, 0, 0);
            s.go(1);
            machineIs(s, 8, 7, 1, 0, 0, 0);
        });
    }
}
