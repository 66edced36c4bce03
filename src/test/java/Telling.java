import java.util.ArrayList;
import java.util.List;
import java.util.Random;

/** Makes up terms: typed ones, ones of names at random, and ones whose types grow. */
final class Telling {
    private static final int[] SMALL = {0, 1, 2, 3, -1, 5, 7, 20, 40, 60, 100};

    private record Ty(int head, Ty left, Ty right) { }

    private record Known(int name, Ty type) { }

    private static final Ty INTEGER = new Ty(Selfkindle.INT, null, null);

    private final Random random;

    Telling(Random random) {
        this.random = random;
    }

    static Model.Tree tree(Model.Kind kind, long number, int name, int other, Model.Tree... parts) {
        return new Model.Tree(kind, number, name, other, List.of(parts));
    }

    static Model.Tree num(long number) {
        return tree(Model.Kind.NUMBER, number, 0, 0);
    }

    static Model.Tree name(int name) {
        return tree(Model.Kind.NAME, 0, name, 0);
    }

    static Model.Tree fn(int name, Model.Tree body) {
        return tree(Model.Kind.FUNCTION, 0, name, 0, body);
    }

    static Model.Tree call(Model.Tree called, Model.Tree value) {
        return tree(Model.Kind.CALL, 0, 0, 0, called, value);
    }

    static Model.Tree two(int sign, Model.Tree first, Model.Tree second) {
        return tree(Model.Kind.TWO, 0, 0, sign, first, second);
    }

    static Model.Tree choose(Model.Tree first, Model.Tree second, Model.Tree third) {
        return tree(Model.Kind.IF, 0, 0, 0, first, second, third);
    }

    static Model.Tree let(int name, Model.Tree value, Model.Tree body) {
        return tree(Model.Kind.LET, 0, name, 0, value, body);
    }

    static Model.Tree rec(int f, int x, Model.Tree body, Model.Tree rest) {
        return tree(Model.Kind.REC, 0, f, x, body, rest);
    }

    static Model.Tree pair(Model.Tree first, Model.Tree second) {
        return tree(Model.Kind.PAIR, 0, 0, 0, first, second);
    }

    static Model.Tree half(int which, Model.Tree pair) {
        return tree(Model.Kind.HALF, 0, 0, which, pair);
    }

    static Model.Tree raise(Model.Tree number) {
        return tree(Model.Kind.RAISE, 0, 0, 0, number);
    }

    static Model.Tree handle(int name, Model.Tree body, Model.Tree clause) {
        return tree(Model.Kind.HANDLER, 0, name, 0, body, clause);
    }

    private int below(int bound) {
        return random.nextInt(bound);
    }

    private long number() {
        return below(12) == 0 ? random.nextLong() : SMALL[below(SMALL.length)];
    }

    private Ty type(int depth) {
        int which = depth == 0 ? 0 : below(5);
        return which < 3 ? INTEGER : new Ty(which == 3 ? Selfkindle.ARROW : Selfkindle.BOTH, type(depth - 1), type(depth - 1));
    }

    // ---- typed terms

    Model.Tree typed(int budget) {
        return typed(type(2), new ArrayList<>(), budget);
    }

    private static List<Known> and(List<Known> around, int name, Ty type) {
        List<Known> inner = new ArrayList<>(around);
        inner.removeIf(known -> known.name == name);
        inner.add(new Known(name, type));
        return inner;
    }

    private Model.Tree leaf(Ty type, List<Known> around) {
        List<Integer> fit = new ArrayList<>();
        for (Known known : around) {
            if (known.type.equals(type)) {
                fit.add(known.name);
            }
        }
        if (!fit.isEmpty() && below(4) > 0) {
            return name(fit.get(below(fit.size())));
        }
        if (type.head == Selfkindle.INT) {
            return num(number());
        }
        if (type.head == Selfkindle.BOTH) {
            return pair(leaf(type.left, around), leaf(type.right, around));
        }
        int bound = below(10);
        return fn(bound, leaf(type.right, and(around, bound, type.left)));
    }

    private Model.Tree typed(Ty type, List<Known> around, int budget) {
        if (budget < 3) {
            return leaf(type, around);
        }
        int bound = below(10);
        int part = (budget - 1) / 2;
        switch (below(14)) {
            case 0:
                return choose(typed(INTEGER, around, budget / 3), typed(type, around, budget / 3), typed(type, around, budget / 3));
            case 1:
            case 2: {
                Ty value = type(2);
                return let(bound, typed(value, around, part), typed(type, and(around, bound, value), part));
            }
            case 3:
            case 4:
                return typedRec(type, around, part);
            case 5: {
                Ty value = type(1);
                return call(typed(new Ty(Selfkindle.ARROW, value, type), around, part), typed(value, around, part));
            }
            case 6: {
                boolean isSecond = random.nextBoolean();
                Ty other = type(1);
                Ty whole = new Ty(Selfkindle.BOTH, isSecond ? other : type, isSecond ? type : other);
                return half(isSecond ? 1 : 0, typed(whole, around, budget - 1));
            }
            case 7:
                return below(3) == 0 ? raise(typed(INTEGER, around, budget - 1)) : leaf(type, around);
            case 8:
                return handle(bound, typed(type, around, part), typed(type, and(around, bound, INTEGER), part));
            case 9:
                return call(fn(bound, typed(type, and(around, bound, INTEGER), budget - 3)), leaf(INTEGER, around));
            default:
                return made(type, around, budget, bound);
        }
    }

    private Model.Tree made(Ty type, List<Known> around, int budget, int bound) {
        int part = (budget - 1) / 2;
        if (type.head == Selfkindle.INT) {
            return two(below(4), typed(INTEGER, around, part), typed(INTEGER, around, part));
        }
        if (type.head == Selfkindle.BOTH) {
            return pair(typed(type.left, around, part), typed(type.right, around, part));
        }
        return fn(bound, typed(type.right, and(around, bound, type.left), budget - 1));
    }

    private Model.Tree typedRec(Ty type, List<Known> around, int part) {
        int f = below(10);
        int x = below(12) == 0 ? f : below(10);
        Ty to = type(1);
        Ty arrow = new Ty(Selfkindle.ARROW, INTEGER, to);
        List<Known> inner = and(and(around, f, arrow), x, INTEGER);
        Model.Tree more = call(name(f), two(1, name(x), num(1)));
        Model.Tree step = to.head == Selfkindle.INT ? two(below(3), typed(INTEGER, inner, part / 2), more) : more;
        Model.Tree body = below(5) == 0 ? typed(to, inner, part) : choose(name(x), step, leaf(to, inner));
        return rec(f, x, body, typed(type, and(around, f, arrow), part));
    }

    // ---- terms of names at random

    Model.Tree wild(int budget) {
        return wild(new ArrayList<>(), budget);
    }

    private static List<Integer> and(List<Integer> around, int name) {
        List<Integer> inner = new ArrayList<>(around);
        inner.add(name);
        return inner;
    }

    private Model.Tree wild(List<Integer> around, int budget) {
        if (budget < 2) {
            boolean isNumber = around.isEmpty() || below(6) == 0;
            return isNumber ? num(SMALL[below(4)]) : name(below(200) == 0 ? below(10) : around.get(below(around.size())));
        }
        int bound = below(5);
        int other = below(5);
        int part = (budget - 1) / 2;
        switch (below(13)) {
            case 0:
            case 1:
            case 2:
                return fn(bound, wild(and(around, bound), budget - 1));
            case 3:
            case 4:
                return call(wild(around, part), wild(around, part));
            case 5:
            case 6:
            case 7:
                return let(bound, wild(around, part), wild(and(around, bound), part));
            case 8:
            case 9:
                return pair(wild(around, part), wild(around, part));
            case 10:
                return half(below(2), wild(around, budget - 1));
            case 11:
                return rec(bound, other, wild(and(and(around, bound), other), part), wild(and(around, bound), part));
            default:
                return below(2) == 0 ? two(below(4), wild(around, part), wild(around, part)) : handle(bound, wild(around, part), wild(and(around, bound), part));
        }
    }

    // ---- terms whose types grow

    Model.Tree growing() {
        int lets = 3 + below(6);
        List<Integer> around = new ArrayList<>();
        List<Model.Tree> values = new ArrayList<>();
        List<Integer> names = new ArrayList<>();
        for (int i = 0; i < lets; i++) {
            values.add(grown(around));
            int name = below(6) == 0 && i > 0 ? names.get(i - 1) : i;
            names.add(name);
            around.add(name);
        }
        Model.Tree term = grown(around);
        boolean isLambda = below(3) == 0;
        for (int i = lets - 1; i >= 0; i--) {
            boolean isCalled = isLambda && below(2) == 0;
            term = isCalled ? call(fn(names.get(i), term), values.get(i)) : let(names.get(i), values.get(i), term);
        }
        return term;
    }

    private Model.Tree grown(List<Integer> around) {
        Model.Tree last = around.isEmpty() ? num(1) : name(around.get(around.size() - 1));
        Model.Tree some = around.isEmpty() ? num(2) : name(around.get(below(around.size())));
        switch (below(10)) {
            case 0:
                return fn(9, pair(name(9), name(9)));
            case 1:
                return fn(9, pair(name(9), last));
            case 2:
                return fn(9, call(last, call(last, name(9))));
            case 3:
                return call(last, some);
            case 4:
                return fn(9, name(9));
            case 5:
                return fn(9, choose(name(9), last, some));
            case 6:
                return pair(last, some);
            case 7:
                return half(below(2), pair(last, some));
            default:
                return pair(last, last);
        }
    }

    // ---- terms near the limits

    /** A recursion that goes about as deep as the machine or the interpreter can. */
    Model.Tree deep() {
        int[] near = {3, 56, 60, 98, 120, 198, 199, 200, 250};
        long times = near[below(near.length)] + below(5) - 2;
        Model.Tree more = call(name(0), two(1, name(1), num(1)));
        Model.Tree last = below(3) == 0 ? raise(num(below(3))) : num(below(3));
        Model.Tree around = wrapped(more);
        Model.Tree body = choose(name(1), around, last);
        Model.Tree whole = rec(0, 1, below(4) == 0 ? handle(2, body, name(2)) : body, call(name(0), num(times)));
        int wraps = below(4);
        for (int i = 0; i < wraps; i++) {
            whole = wrapped(whole);
        }
        return whole;
    }

    private Model.Tree wrapped(Model.Tree term) {
        switch (below(8)) {
            case 0:
                return two(0, term, num(1));
            case 1:
                return two(0, num(1), term);
            case 2:
                return handle(2, term, two(0, name(2), num(1)));
            case 3:
                return handle(2, handle(3, term, raise(name(3))), name(2));
            case 4:
                return let(2, term, name(2));
            case 5:
                return half(0, pair(term, num(0)));
            case 6:
                return call(fn(2, two(2, name(2), num(2))), term);
            default:
                return term;
        }
    }

    /** Many calls that are not within one another. */
    Model.Tree broad() {
        Model.Tree more = call(name(0), two(1, name(1), num(1)));
        Model.Tree body = choose(name(1), two(0, more, more), num(1));
        Model.Tree sum = call(name(0), num(5 + below(4)));
        int terms = below(8);
        for (int i = 0; i < terms; i++) {
            sum = two(0, call(name(0), num(below(8))), sum);
        }
        return rec(0, 1, body, sum);
    }

    /** A pair whose type has about as many parts as a type can have. */
    Model.Tree sized() {
        int parts = 187 + 2 * below(14);
        boolean isOfVariable = below(2) == 0;
        Model.Tree term = sum(parts);
        if (below(3) == 0) {
            term = half(below(2), pair(term, below(2) == 0 ? num(1) : name(7)));
        }
        if (below(4) == 0) {
            term = handle(0, raise(num(1)), term);
        }
        for (int k = 7; k > 1; k--) {
            Model.Tree twice = pair(name(k - 1), name(k - 1));
            term = below(5) == 0 ? call(fn(k, term), twice) : let(k, twice, term);
        }
        return isOfVariable ? fn(1, below(2) == 0 ? term : half(0, pair(num(1), term))) : let(1, num(1), term);
    }

    /** Name k has a type of 2^k - 1 parts. */
    private Model.Tree sum(int parts) {
        int k = 7;
        while ((1 << k) - 1 > parts) {
            k--;
        }
        int rest = parts - (1 << k);
        if (rest <= 0) {
            return name(k);
        }
        return below(2) == 0 ? pair(name(k), sum(rest)) : pair(sum(rest), name(k));
    }
}
