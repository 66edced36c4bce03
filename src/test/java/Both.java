import java.util.List;

/** The class and the model side by side: every call goes to both, and what they answer is compared. */
final class Both {
    interface Call {
        long answer();
    }

    final Selfkindle real = new Selfkindle();
    final Model model = new Model();
    final StringBuilder run = new StringBuilder();
    int calls;
    int wrong;

    private static String tried(Call call) {
        try {
            return Long.toString(call.answer());
        } catch (IndexOutOfBoundsException | IllegalStateException | IllegalArgumentException thrown) {
            return thrown.getClass().getName();
        }
    }

    String both(String what, Call one, Call other) {
        calls++;
        String due = tried(other);
        String got;
        try {
            got = tried(one);
        } catch (RuntimeException thrown) {
            got = "the machine threw " + thrown;
        }
        run.append(what).append(" -> ").append(got).append('\n');
        if (!got.equals(due)) {
            wrong++;
            System.out.println(run + "due is " + due);
        }
        return due;
    }

    String number(long number) {
        return both("number(" + number + ")", () -> real.number(number), () -> model.leaf(Model.Kind.NUMBER, number, 0));
    }

    String name(int name) {
        return both("name(" + name + ")", () -> real.name(name), () -> model.leaf(Model.Kind.NAME, 0, name));
    }

    String function(int name) {
        return both("function(" + name + ")", () -> real.function(name), () -> model.named(Model.Kind.FUNCTION, 1, name, 0));
    }

    String call() {
        return both("call()", () -> real.call(), () -> model.make(Model.Kind.CALL, 2, 0, 0));
    }

    String two(int sign) {
        return both("two(" + sign + ")", () -> real.two(sign), () -> model.two(sign));
    }

    String choose() {
        return both("choose()", () -> real.choose(), () -> model.make(Model.Kind.IF, 3, 0, 0));
    }

    String let(int name) {
        return both("let(" + name + ")", () -> real.let(name), () -> model.named(Model.Kind.LET, 2, name, 0));
    }

    String rec(int f, int x) {
        return both("rec(" + f + ", " + x + ")", () -> real.rec(f, x), () -> model.named(Model.Kind.REC, 2, f, x));
    }

    String pair() {
        return both("pair()", () -> real.pair(), () -> model.make(Model.Kind.PAIR, 2, 0, 0));
    }

    String half(boolean isSecond) {
        return both("half(" + isSecond + ")", () -> real.half(isSecond), () -> model.make(Model.Kind.HALF, 1, 0, isSecond ? 1 : 0));
    }

    String raise() {
        return both("raise()", () -> real.raise(), () -> model.make(Model.Kind.RAISE, 1, 0, 0));
    }

    String handle(int name) {
        return both("handle(" + name + ")", () -> real.handle(name), () -> model.named(Model.Kind.HANDLER, 2, name, 0));
    }

    String program() {
        return both("program()", () -> real.program(), () -> model.program());
    }

    String fault() {
        return both("fault()", () -> real.fault(), () -> model.fault());
    }

    String type(int place) {
        return both("type(" + place + ")", () -> real.type(place), () -> model.type(place));
    }

    String optimise(int passes) {
        return both("optimise(" + passes + ")", () -> real.optimise(passes), () -> model.optimise(passes));
    }

    String size() {
        return both("size()", () -> real.size(), () -> model.size());
    }

    String orders() {
        return both("orders()", () -> real.orders(), () -> model.orders());
    }

    String order(int place, int what) {
        return both("order(" + place + ", " + what + ")", () -> real.order(place, what), () -> model.order(place, what));
    }

    String stop(int place, boolean is) {
        return both("stop(" + place + ", " + is + ")", () -> real.stop(place, is) ? 1 : 0, () -> model.stop(place, is) ? 1 : 0);
    }

    String go(int steps) {
        return both("go(" + steps + ")", () -> real.go(steps), () -> model.go(steps));
    }

    String again() {
        return both("again()", () -> {
            real.again();
            return 0;
        }, () -> {
            model.again();
            return 0;
        });
    }

    String state() {
        return both("state()", () -> real.state(), () -> model.state());
    }

    String value() {
        return both("value()", () -> real.value(), () -> model.value());
    }

    String machine(int what) {
        return both("machine(" + what + ")", () -> real.machine(what), () -> model.machine(what));
    }

    String stateAnew() {
        return both("stateAnew()", () -> real.stateAnew(), () -> model.stateAnew());
    }

    String valueAnew() {
        return both("valueAnew()", () -> real.valueAnew(), () -> model.valueAnew());
    }

    void tell(Model.Tree tree) {
        List<Model.Tree> parts = tree.parts();
        for (Model.Tree part : parts) {
            tell(part);
        }
        switch (tree.kind()) {
            case NUMBER -> number(tree.number());
            case NAME -> name(tree.name());
            case FUNCTION -> function(tree.name());
            case CALL -> call();
            case TWO -> two(tree.other());
            case IF -> choose();
            case LET -> let(tree.name());
            case REC -> rec(tree.name(), tree.other());
            case PAIR -> pair();
            case HALF -> half(tree.other() == 1);
            case RAISE -> raise();
            default -> handle(tree.name());
        }
    }

    /** All that can be asked without a change. */
    void lookAround() {
        fault();
        size();
        orders();
        state();
        value();
        for (int what = -1; what <= 6; what++) {
            machine(what);
        }
        stateAnew();
        valueAnew();
    }

    void lookAtType() {
        for (int place = -1; place <= 200; place++) {
            if (type(place).equals("-1")) {
                return;
            }
        }
    }

    void lookAtOrders() {
        for (int place = -1; place <= model.code.size(); place++) {
            for (int what = -1; what <= 3; what++) {
                order(place, what);
            }
        }
    }
}
