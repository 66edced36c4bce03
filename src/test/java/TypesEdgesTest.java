/** The sentences under "Types", and of promises 15 and 16, that name an edge, each with a test of its own. */
public final class TypesEdgesTest extends Checking {
    private static final Model.Tree ID = fn(9, x(9));

    public static void main(String[] args) {
        faults();
        whatIsInt();
        oneType();
        variables();
        names();
        finite();
        largest();
        holds("types of one program behind another", TypesEdgesTest::overAndOver);
        partsOfTheProgram();
        places();
        passed();
        finish();
    }

    private static void right(Model.Tree tree) {
        due(0, with(tree).fault());
    }

    private static void untyped(Model.Tree tree) {
        Selfkindle s = with(tree);
        due(2, s.fault());
        refuses(STATE, () -> s.type(0));
    }

    // ---- promise 15

    private static void faults() {
        holds("fault: refused without a program, also with a pile", () -> {
            Selfkindle s = new Selfkindle();
            s.number(1L);
            refuses(STATE, () -> s.fault());
            s.program();
            due(0, s.fault());
        });
        holds("fault: 1 if nobody binds some name, also if it has no type either", () -> {
            due(1, with(pair(app(num(1), num(1)), x(0))).fault());
            due(1, with(pair(x(0), app(num(1), num(1)))).fault());
            due(1, with(fn(0, app(app(x(0), x(0)), x(1)))).fault());
            due(1, with(when(num(1), num(2), x(9))).fault());
        });
        holds("fault: otherwise 2 if it has no type", () -> due(2, with(app(num(1), num(1))).fault()));
        holds("fault: 0 if it is not wrong", () -> due(0, with(num(1)).fault()));
        holds("fault: of this program, not of the one before", () -> {
            Selfkindle s = new Selfkindle();
            Model.Tree[] all = {num(1), app(num(1), num(1)), num(1), x(0), app(num(1), num(1)), x(0), num(1)};
            int[] dues = {0, 2, 0, 1, 2, 1, 0};
            for (int i = 0; i < all.length; i++) {
                tell(s, all[i]);
                s.program();
                due(dues[i], s.fault());
            }
        });
        holds("fault: the program, as it was told", () -> {
            Selfkindle s = with(when(num(1), num(2), let(0, num(3), x(0))));
            due(1, s.optimise(3));
            due(0, s.fault());
            due(1, s.size());
        });
        holds("fault: a part that is never come to counts too", () -> {
            untyped(when(num(1), num(2), app(num(1), num(2))));
            untyped(let(0, app(num(1), num(2)), num(3)));
            untyped(rec(0, 1, app(num(1), num(2)), num(3)));
            untyped(handle(0, num(1), app(num(1), num(2))));
            untyped(fn(0, app(num(1), num(2))));
        });
    }

    // ---- what a type must be

    private static void whatIsInt() {
        isInt("a function", ID, term -> app(term, num(1)));
        isInt("a pair", pair(num(1), num(2)), term -> half(0, term));
    }

    private interface Use {
        Model.Tree of(Model.Tree term);
    }

    /** Another type than INT, a term that has it, and a use that only a term of that type has. */
    private static void isInt(String what, Model.Tree other, Use use) {
        holds("both of two are INT, not " + what, () -> {
            for (int sign = 0; sign < 4; sign++) {
                untyped(two(sign, other, num(1)));
                untyped(two(sign, num(1), other));
                right(two(sign, num(1), num(1)));
            }
        });
        holds("two is INT, not " + what, () -> {
            for (int sign = 0; sign < 4; sign++) {
                untyped(use.of(two(sign, num(1), num(1))));
            }
        });
        holds("the first of an if is INT, not " + what, () -> untyped(when(other, num(1), num(1))));
        holds("what is raised is INT, not " + what, () -> untyped(raise(other)));
        holds("a handler's name is INT, not " + what, () -> untyped(handle(0, num(1), let(1, use.of(x(0)), num(1)))));
        holds("a number is INT, not " + what, () -> untyped(use.of(num(1))));
        holds("what is used as " + what + " may be one", () -> right(use.of(other)));
    }

    private static void oneType() {
        holds("the others of an if, and it, have one type", () -> {
            untyped(when(num(1), num(1), ID));
            untyped(when(num(1), pair(num(1), num(1)), ID));
            untyped(two(0, when(num(1), ID, ID), num(1)));
            types(with(fn(0, fn(1, when(num(1), x(0), x(1))))), 1, 10, 1, 10, 10);
        });
        holds("a handler, its body and its clause have one type", () -> {
            untyped(handle(0, ID, num(1)));
            untyped(handle(0, num(1), pair(x(0), x(0))));
            untyped(app(handle(0, num(1), x(0)), num(1)));
            types(with(handle(0, raise(num(1)), pair(x(0), x(0)))), 2, 0, 0);
            types(with(handle(0, fn(1, x(1)), raise(x(0)))), 1, 10, 10);
        });
        holds("a call has what the arrow leads to", () -> {
            types(with(fn(0, app(x(0), num(1)))), 1, 1, 0, 10, 10);
            untyped(app(fn(0, half(0, x(0))), num(1)));
        });
        holds("a half of a pair that type", () -> {
            types(with(half(0, pair(num(1), ID))), 0);
            types(with(half(1, pair(num(1), ID))), 1, 10, 10);
            types(with(fn(0, half(0, x(0)))), 1, 2, 10, 11, 10);
            types(with(fn(0, half(1, x(0)))), 1, 2, 10, 11, 11);
            untyped(half(0, ID));
        });
        holds("a raise has any type", () -> {
            right(app(raise(num(1)), raise(num(1))));
            right(half(0, raise(num(1))));
            right(two(0, raise(num(1)), raise(raise(num(2)))));
            types(with(raise(num(1))), 10);
            right(when(num(1), raise(num(1)), ID));
        });
        holds("f of a rec is an arrow from x's type to the body's", () -> {
            untyped(rec(0, 1, pair(x(1), x(1)), two(0, app(x(0), num(1)), num(1))));
            untyped(rec(0, 1, two(0, x(1), num(1)), app(x(0), ID)));
            types(with(rec(0, 1, pair(x(1), num(1)), x(0))), 1, 10, 2, 10, 0);
        });
    }

    // ---- other types at each place

    private static Model.Tree twice(int name) {
        return pair(app(x(name), num(1)), app(x(name), ID));
    }

    private static void variables() {
        holds("a let's name has other types at each place", () -> {
            right(let(0, ID, twice(0)));
            right(let(0, ID, let(1, x(0), let(2, x(1), twice(2)))));
            right(let(0, let(1, ID, x(1)), twice(0)));
        });
        holds("those variables that are in the types of names around are the same at each place", () -> {
            untyped(fn(1, let(0, x(1), twice(0))));
            untyped(fn(1, let(0, fn(2, app(x(1), x(2))), twice(0))));
            untyped(fn(1, let(0, fn(2, when(num(1), x(1), x(2))), twice(0))));
            right(fn(1, let(0, fn(2, let(3, x(1), x(2))), twice(0))));
            types(with(fn(1, let(0, fn(2, pair(x(1), x(2))), pair(app(x(0), num(1)), app(x(0), x(0)))))), 1, 10, 2, 2, 10, 0, 2, 10, 1, 11, 2, 10, 11);
        });
        holds("names around are those of every kind", () -> {
            untyped(fn(1, let(3, x(1), let(0, x(3), twice(0)))));
            untyped(rec(1, 2, let(0, x(2), let(3, twice(0), x(2))), x(1)));
            untyped(rec(1, 2, let(0, fn(3, app(x(1), x(3))), let(4, twice(0), num(1))), x(1)));
            untyped(app(fn(1, let(0, x(1), twice(0))), ID));
        });
        holds("variables of what is around by now, not only as it was found", () -> {
            untyped(fn(1, let(0, fn(2, x(2)), let(3, x(1), let(4, app(x(0), x(3)), twice(4))))));
            types(with(fn(1, fn(2, let(0, pair(x(1), x(2)), let(3, when(num(1), x(1), x(2)), x(0)))))), 1, 10, 1, 10, 2, 10, 10);
        });
        holds("in the value of a let its name is not the let's", () -> untyped(let(0, ID, let(0, app(x(0), num(1)), app(x(0), num(1))))));
        holds("f of a rec likewise in the rest", () -> {
            right(rec(0, 1, x(1), twice(0)));
            untyped(fn(2, rec(0, 1, app(x(2), x(1)), twice(0))));
            types(with(fn(2, rec(0, 1, when(num(1), x(1), x(2)), app(x(0), num(1))))), 1, 0, 0);
        });
        holds("in the body of a rec f has one type", () -> {
            untyped(rec(0, 1, let(2, twice(0), x(1)), num(1)));
            untyped(rec(0, 1, let(2, app(x(0), num(1)), x(1)), app(x(0), ID)));
            right(rec(0, 1, let(2, app(x(0), num(1)), x(1)), app(x(0), num(2))));
        });
        holds("a function's name has one type", () -> untyped(app(fn(0, twice(0)), ID)));
        holds("x of a rec has one type", () -> untyped(rec(0, 1, let(2, twice(1), num(1)), app(x(0), ID))));
        holds("a let has a type only if its value has one", () -> untyped(let(0, app(num(1), num(1)), num(2))));
    }

    private static void names() {
        holds("the most general type", () -> {
            types(with(ID), 1, 10, 10);
            types(with(fn(0, fn(1, x(0)))), 1, 10, 1, 11, 10);
            types(with(fn(0, fn(1, fn(2, app(app(x(0), x(2)), app(x(1), x(2))))))), 1, 1, 10, 1, 11, 12, 1, 1, 10, 11, 1, 10, 12);
            types(with(rec(0, 1, app(x(0), x(1)), x(0))), 1, 10, 11);
            types(with(fn(0, rec(1, 2, app(x(1), x(0)), x(1)))), 1, 10, 1, 10, 11);
        });
        holds("variables are told from 0 in the order in which they occur", () -> {
            types(with(fn(0, fn(1, fn(2, pair(x(2), pair(x(0), x(1))))))), 1, 10, 1, 11, 1, 12, 2, 12, 2, 10, 11);
            types(with(pair(raise(num(1)), pair(ID, raise(num(1))))), 2, 10, 2, 1, 11, 11, 12);
        });
        holds("59 variables", () -> {
            Selfkindle s = new Selfkindle();
            s.number(1L);
            for (int i = 0; i < 59; i++) {
                s.function(i % 10);
            }
            s.program();
            for (int i = 0; i < 59; i++) {
                due(Selfkindle.ARROW, s.type(2 * i));
                due(Selfkindle.VARIABLE + i, s.type(2 * i + 1));
            }
            due(Selfkindle.INT, s.type(118));
            due(Selfkindle.NONE, s.type(119));
        });
        holds("100 variables, as many as a type can have", () -> {
            Model.Tree term = pair(x(7), pair(x(6), x(3)));
            for (int k = 7; k > 1; k--) {
                term = let(k, pair(x(k - 1), x(k - 1)), term);
            }
            Selfkindle s = with(let(1, raise(num(1)), term));
            int variables = 0;
            for (int i = 0; i < 199; i++) {
                if (s.type(i) != Selfkindle.BOTH) {
                    due(Selfkindle.VARIABLE + variables, s.type(i));
                    variables++;
                }
            }
            due(100, variables);
            due(109, s.type(198));
            due(Selfkindle.NONE, s.type(199));
        });
    }

    // ---- finite types

    private static void finite() {
        holds("types are finite", () -> {
            untyped(fn(0, app(x(0), x(0))));
            untyped(fn(0, app(x(0), pair(x(0), num(1)))));
            untyped(fn(0, when(num(1), x(0), pair(x(0), x(0)))));
            untyped(fn(0, when(num(1), x(0), fn(1, x(0)))));
            untyped(fn(0, when(num(1), x(0), half(0, x(0)))));
            untyped(fn(0, when(num(1), half(1, x(0)), x(0))));
            untyped(rec(0, 1, x(0), num(1)));
            untyped(rec(0, 1, pair(app(x(0), x(1)), num(1)), num(1)));
            untyped(fn(0, handle(1, x(0), fn(2, x(0)))));
        });
        holds("types are finite also through two variables", () -> {
            untyped(fn(0, fn(1, pair(app(x(0), x(1)), app(x(1), x(0))))));
            untyped(fn(0, fn(1, let(2, when(num(1), x(0), pair(x(1), num(1))), when(num(1), x(1), pair(x(0), num(1)))))));
        });
        holds("a variable is the same as itself", () -> {
            types(with(fn(0, when(num(1), x(0), x(0)))), 1, 10, 10);
            types(with(fn(0, fn(1, let(2, when(num(1), x(0), x(1)), when(num(1), x(1), x(0)))))), 1, 10, 1, 10, 10);
            types(with(rec(0, 1, when(num(1), app(x(0), x(1)), app(x(0), x(1))), x(0))), 1, 10, 11);
            right(fn(0, when(num(1), pair(x(0), x(0)), pair(x(0), x(0)))));
        });
    }

    // ---- 200 parts; a type has an odd number of them, so 199 are the most and 201 the first too many

    private static void upTo200(String which, Model.Tree of199, Model.Tree of201) {
        holds("no more than 200 parts: " + which, () -> {
            right(doubled(of199));
            untyped(doubled(of201));
        });
    }

    private static Model.Tree unused(Model.Tree value) {
        return let(9, value, num(1));
    }

    private static void largest() {
        upTo200("a pair", sized(199), sized(201));
        upTo200("a function, from its name's type", fn(9, sized(197)), fn(9, sized(199)));
        upTo200("a function that takes so many", fn(9, let(8, when(num(1), x(9), sized(197)), num(1))), fn(9, let(8, when(num(1), x(9), sized(199)), num(1))));
        upTo200("an if", when(num(1), raise(num(1)), sized(199)), when(num(1), raise(num(1)), sized(201)));
        upTo200("a handler", handle(9, raise(num(1)), sized(199)), handle(9, raise(num(1)), sized(201)));
        upTo200("a let", let(9, num(1), sized(199)), let(9, num(1), sized(201)));
        upTo200("a rec", rec(8, 9, x(9), sized(199)), rec(8, 9, x(9), sized(201)));
        upTo200("what a call leads to", unused(app(raise(num(1)), sized(197))), unused(app(raise(num(1)), sized(199))));
        upTo200("a name in place of a smaller type", let(9, fn(8, x(8)), unused(app(x(9), sized(99)))), let(9, fn(8, x(8)), unused(app(x(9), sized(101)))));
        upTo200("f of a rec at a place in the rest", rec(8, 9, x(9), unused(app(x(8), sized(99)))), rec(8, 9, x(9), unused(app(x(8), sized(101)))));
        upTo200("f of a rec at a place in its body", rec(8, 9, let(0, when(num(1), x(9), sized(197)), let(0, x(8), num(1))), num(1)),
            rec(8, 9, let(0, when(num(1), x(9), sized(199)), let(0, x(8), num(1))), num(1)));
        upTo200("what a half is of", half(0, pair(num(1), sized(197))), half(0, pair(num(1), sized(199))));
        holds("no more than 200 parts: they are told to the last one", () -> {
            Selfkindle s = with(doubled(sized(199)));
            due(199, typesOf(s).size());
            due(Selfkindle.INT, s.type(198));
            due(Selfkindle.NONE, s.type(199));
            due(Selfkindle.NONE, s.type(200));
        });
        holds("no more than 200 parts: far more", () -> {
            untyped(let(0, fn(9, pair(x(9), x(9))), pow(10, 0, num(1))));
            untyped(fn(1, doubled(pair(pair(x(7), x(7)), pair(x(7), x(7))))));
            Model.Tree grows = x(6);
            for (int i = 6; i > 0; i--) {
                grows = let(i, fn(0, app(x(i - 1), app(x(i - 1), x(0)))), grows);
            }
            untyped(let(0, fn(1, pair(x(1), x(1))), grows));
        });
    }

    private static Model.Tree pow(int times, int name, Model.Tree value) {
        return times == 0 ? value : app(x(name), pow(times - 1, name, value));
    }

    /** As many as 512 calls can tell, each of which finds many types of 127 parts. */
    private static void overAndOver() {
        Selfkindle s = new Selfkindle();
        Model.Tree term = x(7);
        for (int i = 0; i < 15; i++) {
            term = let(8, term, x(7));
        }
        Model.Tree dear = let(9, term, num(1));
        for (int k = 7; k > 1; k--) {
            dear = let(k, pair(x(k - 1), x(k - 1)), dear);
        }
        dear = let(1, raise(num(1)), dear);
        for (int i = 0; i < 8; i++) {
            tell(s, dear);
            due(60, s.program());
            due(0, s.fault());
        }
        types(s, Selfkindle.INT);
    }

    private static void partsOfTheProgram() {
        upTo200("of a value that is not used", unused(sized(199)), unused(sized(201)));
        upTo200("of a value that a function takes", app(fn(9, num(1)), sized(197)), app(fn(9, num(1)), sized(199)));
        upTo200("of a clause", unused(handle(9, raise(num(1)), sized(199))), unused(handle(9, raise(num(1)), sized(201))));
        upTo200("of the body of a rec", rec(8, 9, sized(199), num(1)), rec(8, 9, sized(201), num(1)));
        holds("as it is when all are found", () -> {
            Model.Tree four = pair(x(9), pair(x(9), pair(x(9), x(9))));
            Model.Tree later = when(num(1), x(9), sized(49));
            right(doubled(fn(9, let(8, four, later))));
            untyped(doubled(fn(9, let(8, pair(num(1), four), later))));
            right(fn(9, let(8, pair(num(1), four), num(1))));
        });
        holds("of a part of the program: the value of a let as it is, not as its name is at a place", () -> {
            Model.Tree used = unused(app(x(9), sized(49)));
            right(doubled(let(9, fn(8, pair(x(8), x(8))), used)));
            untyped(doubled(let(9, fn(8, pair(x(8), pair(x(8), pair(x(8), x(8))))), used)));
            right(doubled(let(9, fn(8, pair(x(8), pair(x(8), pair(x(8), x(8))))), num(1))));
        });
        holds("of a part of the program: a rec's f that is nowhere a part", () -> {
            Model.Tree body = let(0, when(num(1), x(9), sized(101)), sized(101));
            right(doubled(rec(8, 9, body, num(1))));
            untyped(doubled(rec(8, 9, body, unused(x(8)))));
        });
    }

    // ---- promise 16

    private static void places() {
        holds("type: from 0", () -> {
            Selfkindle s = with(ID);
            refuses(INDEX, () -> s.type(-1));
            refuses(INDEX, () -> s.type(Integer.MIN_VALUE));
            due(Selfkindle.ARROW, s.type(0));
        });
        holds("type: NONE if there are not so many", () -> {
            Selfkindle s = with(ID);
            due(Selfkindle.VARIABLE, s.type(2));
            due(Selfkindle.NONE, s.type(3));
            due(Selfkindle.NONE, s.type(4));
            due(Selfkindle.NONE, s.type(200));
            due(Selfkindle.NONE, s.type(Integer.MAX_VALUE));
        });
        holds("type: a type of one part", () -> types(with(num(0)), 0));
        holds("type: each ahead of those in it", () -> types(with(pair(pair(num(1), ID), fn(0, fn(1, pair(x(1), num(1)))))), 2, 2, 0, 1, 10, 10, 1, 11, 1, 12, 2, 12, 0));
        holds("type: place is below 0, ahead of no program, and of a wrong one", () -> {
            refuses(INDEX, () -> new Selfkindle().type(-1));
            refuses(INDEX, () -> with(x(0)).type(-1));
            refuses(STATE, () -> with(x(0)).type(0));
            refuses(STATE, () -> new Selfkindle().type(0));
        });
        holds("type: a shorter one behind a longer one", () -> {
            Selfkindle s = with(doubled(sized(199)));
            tell(s, ID);
            s.program();
            types(s, 1, 10, 10);
        });
    }

    private static void passed() {
        holds("type: as it has become by passes", () -> {
            Selfkindle s = with(fn(0, when(num(1), x(0), num(3))));
            types(s, 1, 0, 0);
            due(0, s.optimise(14));
            types(s, 1, 0, 0);
            due(1, s.optimise(Selfkindle.FOLD));
            types(s, 1, 10, 10);
        });
        holds("type: an unused rec's constraints go with it", () -> {
            Selfkindle s = with(fn(0, rec(1, 2, two(0, x(0), x(2)), x(0))));
            types(s, 1, 0, 0);
            due(1, s.optimise(Selfkindle.DROP));
            types(s, 1, 10, 10);
        });
        holds("type: a let in place of a call", () -> {
            Selfkindle s = with(app(fn(0, pair(x(0), x(0))), ID));
            types(s, 2, 1, 10, 10, 1, 10, 10);
            due(1, s.optimise(Selfkindle.BETA));
            types(s, 2, 1, 10, 10, 1, 11, 11);
        });
    }
}
