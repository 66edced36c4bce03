/** The sentences under "Passes", and of promises 17 and 18, that name an edge, each with a test of its own. */
public final class PassesEdgesTest extends Checking {
    private static final int FOLD = Selfkindle.FOLD;
    private static final int INLINE = Selfkindle.INLINE;
    private static final int DROP = Selfkindle.DROP;
    private static final int BETA = Selfkindle.BETA;
    private static final Model.Tree BOTH = pair(num(1), num(2));

    /** One term of each kind, in which no pass finds anything; names 6 to 8 are a pair, a function and a number. */
    private static final Model.Tree[] KINDS = {num(1), x(8), fn(1, x(1)), app(x(7), num(1)), two(0, x(8), num(1)), when(x(8), num(1), num(2)),
        let(1, BOTH, half(0, x(1))), rec(1, 2, x(2), app(x(1), num(1))), BOTH, half(0, x(6)), raise(x(8)), handle(1, x(8), num(1))};
    private static final int FIRST_NOT_SIMPLE = 3;

    public static void main(String[] args) {
        fold();
        inline();
        drop();
        isIn();
        beta();
        holds("passes through one program behind another", PassesEdgesTest::overAndOver);
        once();
        sets();
        anew();
        size();
        finish();
    }

    private static Model.Tree around(Model.Tree term) {
        return fn(6, fn(7, fn(8, term)));
    }

    private static void becomes(int pass, Model.Tree from, Model.Tree to) {
        passes(pass, 1, around(from), around(to));
    }

    private static void stays(int pass, Model.Tree term) {
        passes(pass, 0, around(term), around(term));
    }

    // ---- FOLD

    private static void fold() {
        holds("FOLD: nothing else is made another", () -> {
            for (Model.Tree kind : KINDS) {
                stays(FOLD, kind);
            }
        });
        holds("FOLD: two of two numbers, not of one or none", () -> {
            for (int sign = 0; sign < 4; sign++) {
                becomes(FOLD, two(sign, num(6), num(7)), num(new long[] {13, -1, 42, 1}[sign]));
                stays(FOLD, two(sign, x(8), num(7)));
                stays(FOLD, two(sign, num(7), x(8)));
                stays(FOLD, two(sign, x(8), x(8)));
                stays(FOLD, two(sign, num(7), raise(num(8))));
            }
        });
        holds("FOLD: the number, with overflow", () -> {
            becomes(FOLD, two(0, num(Long.MAX_VALUE), num(1)), num(Long.MIN_VALUE));
            becomes(FOLD, two(1, num(Long.MIN_VALUE), num(1)), num(Long.MAX_VALUE));
            becomes(FOLD, two(2, num(Long.MIN_VALUE), num(-1)), num(Long.MIN_VALUE));
            becomes(FOLD, two(3, num(Long.MIN_VALUE), num(Long.MAX_VALUE)), num(1));
        });
        holds("FOLD: an if of a number is that one of both", () -> {
            for (Model.Tree kind : KINDS) {
                becomes(FOLD, when(num(1), kind, raise(num(2))), kind);
                becomes(FOLD, when(num(0), raise(num(2)), kind), kind);
                becomes(FOLD, when(num(1L << 32), kind, raise(num(2))), kind);
            }
            stays(FOLD, when(x(8), num(1), num(2)));
            stays(FOLD, when(raise(num(1)), num(1), num(2)));
        });
        holds("FOLD: a half of a pair whose parts are both simple", () -> {
            for (int i = 0; i < KINDS.length; i++) {
                foldsHalf(KINDS[i], num(5), i < FIRST_NOT_SIMPLE);
                foldsHalf(num(5), KINDS[i], i < FIRST_NOT_SIMPLE);
            }
        });
        holds("FOLD: a half of another term than a pair", () -> stays(FOLD, half(1, x(6))));
    }

    private static void foldsHalf(Model.Tree first, Model.Tree second, boolean folds) {
        for (int which = 0; which < 2; which++) {
            Model.Tree half = half(which, pair(first, second));
            if (folds) {
                becomes(FOLD, half, which == 0 ? first : second);
            } else {
                stays(FOLD, half);
            }
        }
    }

    // ---- INLINE

    private static Model.Tree inlined(Model.Tree value) {
        return pair(value, pair(num(5), value));
    }

    private static void inline() {
        holds("INLINE: a value that is a number, or a name; of no other kind", () -> {
            for (int i = 0; i < KINDS.length; i++) {
                Model.Tree let = let(0, KINDS[i], inlined(x(0)));
                if (i < 2) {
                    becomes(INLINE, let, inlined(KINDS[i]));
                } else {
                    stays(INLINE, let);
                }
            }
        });
        holds("INLINE: a let alone", () -> {
            stays(INLINE, rec(0, 1, x(1), num(2)));
            stays(INLINE, app(fn(0, x(0)), num(2)));
            stays(INLINE, handle(0, num(2), x(0)));
        });
        holds("INLINE: a name that is not in the body", () -> {
            becomes(INLINE, let(0, num(4), num(5)), num(5));
            becomes(INLINE, let(0, x(8), num(5)), num(5));
        });
        bindsNowhere("a function", fn(8, num(1)), fn(5, num(1)));
        bindsNowhere("a let", let(8, BOTH, num(1)), let(5, BOTH, num(1)));
        bindsNowhere("f of a rec", rec(8, 9, x(9), num(1)), rec(5, 9, x(9), num(1)));
        bindsNowhere("x of a rec", rec(9, 8, x(8), num(1)), rec(9, 5, x(5), num(1)));
        bindsNowhere("a handler", handle(8, num(1), num(1)), handle(5, num(1), num(1)));
        holds("INLINE: a number, whatever the body binds", () -> becomes(INLINE, let(0, num(3), fn(8, fn(1, two(0, x(0), x(8))))), fn(8, fn(1, two(0, num(3), x(8))))));
        holds("INLINE: a name that is not the let's own", () -> {
            passes(INLINE, 0, fn(0, let(0, x(0), x(0))), fn(0, let(0, x(0), x(0))));
            passes(INLINE, 0, fn(0, let(0, x(0), num(1))), fn(0, let(0, x(0), num(1))));
            passes(INLINE, 1, fn(0, let(1, x(0), x(1))), fn(0, x(0)));
        });
        inPlace();
    }

    private static void bindsNowhere(String what, Model.Tree binds, Model.Tree bindsAnother) {
        holds("INLINE: a name that the body nowhere binds, by " + what, () -> {
            stays(INLINE, let(0, x(8), binds));
            stays(INLINE, let(0, x(8), pair(x(0), fn(1, pair(num(2), binds)))));
            stays(INLINE, let(0, x(8), pair(binds, x(0))));
            becomes(INLINE, let(0, x(8), pair(x(0), bindsAnother)), pair(x(8), bindsAnother));
            becomes(INLINE, let(0, num(7), pair(x(0), binds)), pair(num(7), binds));
        });
    }

    /** Only the name that the let binds is another: what binds it anew hides it where it does so. */
    private static void inPlace() {
        holds("INLINE: not in a function of the name", () -> becomes(INLINE, let(0, num(7), pair(x(0), fn(0, x(0)))), pair(num(7), fn(0, x(0)))));
        holds("INLINE: in the value, not in the body of a let of the name", () ->
            becomes(INLINE, let(0, num(7), let(0, pair(x(0), x(0)), x(0))), let(0, pair(num(7), num(7)), x(0))));
        holds("INLINE: not in a rec whose f is the name", () ->
            becomes(INLINE, let(0, num(7), pair(x(0), rec(0, 1, app(x(0), x(1)), x(0)))), pair(num(7), rec(0, 1, app(x(0), x(1)), x(0)))));
        holds("INLINE: in the rest, not in the body of a rec whose x is the name", () ->
            becomes(INLINE, let(0, num(7), rec(1, 0, x(0), app(x(1), x(0)))), rec(1, 0, x(0), app(x(1), num(7)))));
        holds("INLINE: in both of a rec of other names", () ->
            becomes(INLINE, let(0, num(7), rec(1, 2, two(0, x(2), x(0)), app(x(1), x(0)))), rec(1, 2, two(0, x(2), num(7)), app(x(1), num(7)))));
        holds("INLINE: in the body, not in the clause of a handler of the name", () ->
            becomes(INLINE, let(0, num(7), handle(0, two(0, x(0), x(8)), x(0))), handle(0, two(0, num(7), x(8)), x(0))));
        holds("INLINE: at every place", () -> {
            Model.Tree from = x(0);
            Model.Tree to = num(7);
            for (int i = 0; i < 25; i++) {
                from = two(0, from, x(0));
                to = two(0, to, num(7));
            }
            becomes(INLINE, let(0, num(7), from), to);
        });
        holds("INLINE: a term of 60 parts", () -> {
            Model.Tree from = raise(x(0));
            Model.Tree to = raise(num(7));
            for (int i = 0; i < 56; i++) {
                from = fn(1, from);
                to = fn(1, to);
            }
            Selfkindle s = with(let(0, num(7), from));
            due(60, s.size());
            due(1, s.optimise(INLINE));
            due(58, s.size());
            same(codeOf(with(to)), codeOf(s));
        });
    }

    // ---- DROP

    private static void drop() {
        holds("DROP: a let whose value is simple; of no other kind", () -> {
            for (int i = 0; i < KINDS.length; i++) {
                if (i < FIRST_NOT_SIMPLE) {
                    becomes(DROP, let(0, KINDS[i], num(5)), num(5));
                } else {
                    stays(DROP, let(0, KINDS[i], num(5)));
                }
                stays(DROP, let(0, KINDS[i], pair(num(5), x(0))));
            }
        });
        holds("DROP: what is left is of any kind", () -> {
            for (Model.Tree kind : KINDS) {
                becomes(DROP, let(0, num(3), kind), kind);
                becomes(DROP, rec(0, 9, x(9), kind), kind);
            }
        });
        holds("DROP: a rec whose f is not in its rest, whatever its body is", () -> {
            for (Model.Tree kind : KINDS) {
                becomes(DROP, rec(0, 9, kind, num(5)), num(5));
                stays(DROP, rec(0, 9, kind, pair(num(5), x(0))));
            }
            becomes(DROP, rec(0, 9, app(x(0), x(9)), num(5)), num(5));
        });
        holds("DROP: a rec whose x is in its rest, not its f", () -> {
            becomes(DROP, rec(0, 8, x(8), two(0, x(8), num(1))), two(0, x(8), num(1)));
            stays(DROP, rec(0, 0, x(0), app(x(0), num(1))));
        });
        holds("DROP: the value is not the body", () -> {
            becomes(DROP, let(8, x(8), num(4)), num(4));
            stays(DROP, let(8, x(8), two(0, x(8), num(4))));
        });
    }

    private static void dropsNot(Model.Tree body) {
        stays(DROP, let(0, num(3), body));
        stays(DROP, rec(0, 9, x(9), body));
    }

    private static void drops(Model.Tree body) {
        becomes(DROP, let(0, num(3), body), body);
        becomes(DROP, rec(0, 9, x(9), body), body);
    }

    private static void isIn() {
        holds("a name is in a term, if it occurs there", () -> {
            dropsNot(x(0));
            dropsNot(pair(num(1), fn(1, x(0))));
            dropsNot(pair(fn(1, x(0)), num(1)));
            drops(x(8));
        });
        holds("a name is in a term, unless a function binds it", () -> {
            drops(fn(0, x(0)));
            dropsNot(pair(fn(0, x(0)), x(0)));
            dropsNot(pair(x(0), fn(0, x(0))));
        });
        holds("a name is in a term, unless a let binds it, in its body", () -> {
            drops(let(0, BOTH, x(0)));
            dropsNot(let(0, pair(x(0), num(1)), x(0)));
            dropsNot(let(1, BOTH, pair(x(1), x(0))));
        });
        holds("a name is in a term, unless a rec's f binds it, in both", () -> {
            drops(rec(0, 1, app(x(0), x(1)), x(0)));
            dropsNot(rec(1, 2, let(3, pair(x(0), x(0)), pair(x(3), x(2))), x(1)));
        });
        holds("a name is in a term, unless a rec's x binds it, in the body", () -> {
            drops(rec(1, 0, x(0), x(1)));
            dropsNot(rec(1, 0, x(0), pair(x(1), x(0))));
        });
        holds("a name is in a term, unless a handler binds it, in the clause", () -> {
            drops(handle(0, x(8), x(0)));
            dropsNot(handle(0, pair(x(0), num(1)), pair(raise(num(1)), x(0))));
            dropsNot(handle(1, raise(num(2)), pair(x(0), x(1))));
        });
    }

    // ---- BETA

    private static void beta() {
        holds("BETA: a call of a function with a simple term; with no other kind", () -> {
            for (int i = 0; i < KINDS.length; i++) {
                Model.Tree call = app(fn(0, pair(x(0), num(5))), KINDS[i]);
                if (i < FIRST_NOT_SIMPLE) {
                    becomes(BETA, call, let(0, KINDS[i], pair(x(0), num(5))));
                } else {
                    stays(BETA, call);
                }
            }
        });
        holds("BETA: a function of any body", () -> {
            for (Model.Tree kind : KINDS) {
                becomes(BETA, app(fn(0, kind), num(3)), let(0, num(3), kind));
            }
        });
        holds("BETA: of a function alone", () -> {
            stays(BETA, app(x(7), num(3)));
            stays(BETA, app(let(0, num(1), fn(1, x(1))), num(3)));
            stays(BETA, app(raise(num(1)), num(3)));
            stays(BETA, app(app(x(7), num(1)), num(3)));
        });
        holds("BETA: the name is not bound in the term", () -> becomes(BETA, app(fn(8, two(0, x(8), num(1))), x(8)), let(8, x(8), two(0, x(8), num(1)))));
        holds("BETA: a term of 60 parts", () -> {
            Model.Tree body = num(1);
            for (int i = 0; i < 56; i++) {
                body = fn(i % 10, body);
            }
            Selfkindle s = with(app(fn(0, body), num(2)));
            due(60, s.size());
            due(1, s.optimise(BETA));
            due(59, s.size());
            same(codeOf(with(let(0, num(2), body))), codeOf(s));
        });
    }

    /** Nine calls of functions are made lets, which then are their numbers, in one program behind another. */
    private static void overAndOver() {
        Selfkindle s = new Selfkindle();
        Model.Tree calls = app(fn(0, x(0)), num(0));
        Model.Tree lets = let(0, num(0), x(0));
        for (int i = 1; i < 9; i++) {
            calls = two(0, calls, app(fn(i, x(i)), num(i)));
            lets = two(0, lets, let(i, num(i), x(i)));
        }
        for (int i = 0; i < 9; i++) {
            tell(s, calls);
            s.program();
            due(9, s.optimise(BETA));
            same(codeOf(with(lets)), codeOf(s));
        }
        due(9, s.optimise(INLINE));
        due(8, s.optimise(FOLD));
        due(36, s.order(0, 1));
    }

    // ---- how a pass goes through a term

    private static void once() {
        holds("from the inside outwards, by its parts as they have become", () -> {
            passes(FOLD, 3, two(2, two(0, num(1), num(2)), two(0, num(3), num(4))), num(21));
            passes(FOLD, 2, when(two(3, num(1), num(1)), num(5), num(6)), num(6));
            passes(FOLD, 2, half(1, pair(num(1), half(0, pair(num(2), num(3))))), num(2));
            passes(INLINE, 2, let(0, let(1, num(3), x(1)), two(0, x(0), x(0))), two(0, num(3), num(3)));
            passes(DROP, 2, let(0, let(1, num(3), fn(2, x(2))), num(4)), num(4));
            passes(DROP, 2, let(0, num(1), let(1, x(0), num(4))), num(4));
            passes(BETA, 2, app(fn(0, x(0)), fn(1, app(fn(2, x(2)), x(1)))), let(0, fn(1, let(2, x(1), x(2))), x(0)));
        });
        holds("once: what has been made is not gone through again", () -> {
            passes(INLINE, 1, let(0, num(1), let(1, x(0), fn(0, x(1)))), let(1, num(1), fn(0, x(1))));
            passes(BETA, 1, app(app(fn(0, fn(1, x(1))), num(1)), num(2)), app(let(0, num(1), fn(1, x(1))), num(2)));
            passes(FOLD, 1, fn(0, when(x(0), half(0, pair(num(1), x(0))), num(2))), fn(0, when(x(0), num(1), num(2))));
        });
        holds("each for which that is told: those that go are counted too", () -> {
            passes(FOLD, 3, when(num(0), two(0, num(1), num(2)), two(0, num(3), num(4))), num(7));
            passes(DROP, 2, rec(0, 1, let(2, num(1), x(1)), num(3)), num(3));
        });
        holds("all of 60 parts are gone through", () -> {
            Model.Tree sum = num(1);
            for (int i = 0; i < 29; i++) {
                sum = i % 2 == 0 ? two(0, sum, num(1)) : two(0, num(1), sum);
            }
            Selfkindle s = with(fn(0, sum));
            due(60, s.size());
            due(29, s.optimise(FOLD));
            due(2, s.size());
            due(30, s.order(1, 1));
        });
    }

    /** One place for each pass, none of which another pass would change. */
    private static Model.Tree oneOfEach() {
        Model.Tree drop = rec(2, 3, x(3), num(8));
        Model.Tree beta = app(fn(4, app(x(4), num(9))), fn(5, x(5)));
        return pair(pair(two(0, num(1), num(2)), let(1, num(7), x(1))), pair(drop, beta));
    }

    private static void sets() {
        for (int i = 0; i <= 15; i++) {
            int set = i;
            holds("the set " + i, () -> {
                Selfkindle s = with(oneOfEach());
                due(Integer.bitCount(set), s.optimise(set));
                Model.Tree fold = (set & 1) != 0 ? num(3) : two(0, num(1), num(2));
                Model.Tree inline = (set & 2) != 0 ? num(7) : let(1, num(7), x(1));
                Model.Tree drop = (set & 4) != 0 ? num(8) : rec(2, 3, x(3), num(8));
                Model.Tree body = app(x(4), num(9));
                Model.Tree beta = (set & 8) != 0 ? let(4, fn(5, x(5)), body) : app(fn(4, body), fn(5, x(5)));
                same(codeOf(with(pair(pair(fold, inline), pair(drop, beta)))), codeOf(s));
            });
        }
        for (int passes : new int[] {Integer.MIN_VALUE, -16, -1, 16, 31, 256, Integer.MAX_VALUE}) {
            holds("the set, 0 to 15: " + passes, () -> {
                refuses(ARGUMENT, () -> with(num(1)).optimise(passes));
                refuses(ARGUMENT, () -> new Selfkindle().optimise(passes));
            });
        }
        holds("FOLD ahead of INLINE", () -> passes(FOLD | INLINE, 2, let(0, two(0, num(1), num(2)), x(0)), num(3)));
        holds("FOLD ahead of INLINE, not behind it too", () -> passes(FOLD | INLINE, 1, let(0, num(1), two(0, x(0), num(2))), two(0, num(1), num(2))));
        holds("FOLD ahead of DROP", () -> passes(FOLD | DROP, 2, let(0, two(0, num(1), num(2)), num(4)), num(4)));
        holds("FOLD ahead of BETA", () -> passes(FOLD | BETA, 2, app(fn(0, x(0)), two(0, num(1), num(2))), let(0, num(3), x(0))));
        holds("INLINE ahead of DROP", () -> passes(INLINE | DROP, 3, let(0, let(1, num(3), x(1)), let(2, fn(3, x(3)), x(0))), num(3)));
        holds("INLINE ahead of DROP: a name is put ahead of looking for it", () ->
            passes(INLINE | DROP, 2, let(0, fn(1, x(1)), let(2, x(0), num(4))), num(4)));
        holds("DROP ahead of BETA", () -> passes(DROP | BETA, 1, app(fn(0, num(1)), num(2)), let(0, num(2), num(1))));
        holds("INLINE ahead of BETA", () -> passes(INLINE | BETA, 1, app(fn(0, x(0)), num(2)), let(0, num(2), x(0))));
    }

    // ---- promise 17, 18

    private static void anew() {
        for (int i = 0; i < 2; i++) {
            int set = i == 0 ? 0 : 15;
            holds("compiled anew, and begins again, also if nothing is another, by the set " + set, () -> {
                Selfkindle s = with(pair(num(1), fn(0, x(0))));
                due(false, s.stop(1, true));
                due(Selfkindle.GOING, s.go(2000));
                due(1, s.machine(1));
                due(0, s.optimise(set));
                due(Selfkindle.GOING, s.state());
                machineIs(s, 0, 0, 0, 0, 0, 0);
                due(0, s.order(0, 2));
                due(false, s.stop(1, false));
                due(Selfkindle.PAIR_OF, s.go(2000));
                due(0, s.optimise(set));
                due(Selfkindle.GOING, s.state());
            });
        }
        holds("begins again also when it was RAISED or TIRED", () -> {
            Selfkindle raised = with(raise(two(0, num(1), num(2))));
            due(Selfkindle.RAISED, raised.go(2000));
            due(1, raised.optimise(15));
            refuses(STATE, () -> raised.value());
            due(Selfkindle.RAISED, raised.go(2000));
            due(3, raised.value());
            Selfkindle tired = with(countdown(next(), 200));
            due(Selfkindle.TIRED, tired.go(2000));
            due(0, tired.optimise(15));
            due(Selfkindle.GOING, tired.state());
        });
        holds("passes forget stops, also those behind the end by now", () -> {
            Selfkindle s = with(two(0, num(1), num(2)));
            due(false, s.stop(0, true));
            due(false, s.stop(2, true));
            due(1, s.optimise(FOLD));
            due(false, s.stop(0, false));
            refuses(INDEX, () -> s.stop(2, false));
            refuses(INDEX, () -> s.order(1, 0));
            due(1, s.orders());
        });
        holds("passes again and again, to the last one", () -> {
            Selfkindle s = with(app(fn(0, two(0, x(0), num(1))), num(4)));
            due(1, s.optimise(15));
            due(1, s.optimise(15));
            due(1, s.optimise(15));
            due(0, s.optimise(15));
            due(1, s.size());
            due(5, s.order(0, 1));
        });
        holds("the interpreter is of the program as it was told", () -> {
            Selfkindle s = with(rec(0, 1, app(x(0), x(1)), when(num(0), app(x(0), num(1)), num(4))));
            due(2, s.optimise(FOLD | DROP));
            due(1, s.size());
            due(4, s.valueAnew());
        });
    }

    private static void size() {
        holds("size: 0 without a program, also with a pile", () -> {
            Selfkindle s = new Selfkindle();
            due(0, s.size());
            s.number(1L);
            due(0, s.size());
        });
        holds("size: of a wrong program", () -> {
            due(1, with(x(0)).size());
            due(3, with(app(num(1), num(2))).size());
        });
        holds("size: by now", () -> {
            Selfkindle s = with(two(0, two(0, num(1), num(2)), num(3)));
            due(5, s.size());
            s.number(1L);
            due(5, s.size());
            s.optimise(0);
            due(5, s.size());
            s.optimise(FOLD);
            due(1, s.size());
        });
    }
}
