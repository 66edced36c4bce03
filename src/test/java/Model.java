import java.util.ArrayDeque;
import java.util.ArrayList;
import java.util.Deque;
import java.util.HashMap;
import java.util.HashSet;
import java.util.LinkedHashMap;
import java.util.List;
import java.util.Map;
import java.util.Set;

/** The document once more, written with trees, recursion and the Java library, to compare the class with. */
final class Model {
    enum Kind { NUMBER, NAME, FUNCTION, CALL, TWO, IF, LET, REC, PAIR, HALF, RAISE, HANDLER }

    record Tree(Kind kind, long number, int name, int other, List<Tree> parts) {
        int size() {
            int all = 1;
            for (Tree part : parts) {
                all += part.size();
            }
            return all;
        }

        Tree part(int i) {
            return parts.get(i);
        }

        Tree with(List<Tree> others) {
            return new Tree(kind, number, name, other, others);
        }

        boolean isSimple() {
            return kind == Kind.NUMBER || kind == Kind.NAME || kind == Kind.FUNCTION;
        }

        /** The names that one part of this term has bound anew, the nearest last. */
        List<Integer> boundIn(int part) {
            return switch (kind) {
                case FUNCTION -> List.of(name);
                case LET, HANDLER -> part == 1 ? List.of(name) : List.of();
                case REC -> part == 0 ? List.of(name, other) : List.of(name);
                default -> List.of();
            };
        }
    }

    // ---- the pile and the program

    final ArrayList<Tree> pile = new ArrayList<>();
    Tree told;
    Tree now;
    int wrong = -1;
    List<Integer> typeRow;

    int leaf(Kind kind, long number, int name) {
        if (kind == Kind.NAME && (name < 0 || name > 9)) {
            throw new IndexOutOfBoundsException();
        }
        if (pile.size() == 20) {
            throw new IllegalStateException();
        }
        pile.add(new Tree(kind, number, name, 0, List.of()));
        return pile.size();
    }

    int make(Kind kind, int parts, int name, int other) {
        if (pile.size() < parts) {
            throw new IllegalStateException();
        }
        List<Tree> taken = new ArrayList<>(pile.subList(pile.size() - parts, pile.size()));
        Tree made = new Tree(kind, 0, name, other, taken);
        if (made.size() > 60) {
            throw new IllegalStateException();
        }
        for (int i = 0; i < parts; i++) {
            pile.remove(pile.size() - 1);
        }
        pile.add(made);
        return pile.size();
    }

    int named(Kind kind, int parts, int name, int other) {
        if (name < 0 || name > 9 || other < 0 || other > 9) {
            throw new IndexOutOfBoundsException();
        }
        return make(kind, parts, name, other);
    }

    int two(int sign) {
        if (sign < 0 || sign > 3) {
            throw new IllegalArgumentException();
        }
        return make(Kind.TWO, 2, 0, sign);
    }

    int program() {
        if (pile.isEmpty()) {
            throw new IllegalStateException();
        }
        told = pile.remove(pile.size() - 1);
        now = told;
        if (!isClosed(told, new ArrayList<>())) {
            wrong = 1;
        } else {
            typeRow = new Typing().typeOf(told);
            wrong = typeRow == null ? 2 : 0;
        }
        if (wrong == 0) {
            compile();
        }
        return told.size();
    }

    static boolean isClosed(Tree tree, List<Integer> around) {
        if (tree.kind == Kind.NAME) {
            return around.contains(tree.name);
        }
        for (int i = 0; i < tree.parts.size(); i++) {
            List<Integer> inner = new ArrayList<>(around);
            inner.addAll(tree.boundIn(i));
            if (!isClosed(tree.part(i), inner)) {
                return false;
            }
        }
        return true;
    }

    void check() {
        if (wrong != 0) {
            throw new IllegalStateException();
        }
    }

    int fault() {
        if (wrong < 0) {
            throw new IllegalStateException();
        }
        return wrong;
    }

    int type(int place) {
        if (place < 0) {
            throw new IndexOutOfBoundsException();
        }
        check();
        return place < typeRow.size() ? typeRow.get(place) : -1;
    }

    int size() {
        return now == null ? 0 : now.size();
    }

    // ---- types

    static final class Type {
        final int head;
        final Type left;
        final Type right;
        Type is;

        Type(int head, Type left, Type right) {
            this.head = head;
            this.left = left;
            this.right = right;
        }
    }

    static final class Clash extends RuntimeException {
        private static final long serialVersionUID = 1L;
    }

    /** What a name has: a type, and whether its variables are made anew wherever the name stands. */
    record Bound(int name, Type type, Set<Type> general) { }

    static final class Typing {
        static final int FAR = 3000;
        final Type integer = new Type(Selfkindle.INT, null, null);
        final ArrayList<Type> all = new ArrayList<>();
        int work;

        List<Integer> typeOf(Tree tree) {
            try {
                Type type = infer(tree, List.of());
                for (Type part : all) {
                    if (count(part) > 200) {
                        return null;
                    }
                }
                List<Integer> row = new ArrayList<>();
                write(type, row, new HashMap<>());
                return row;
            } catch (Clash clash) {
                return null;
            }
        }

        static Type end(Type type) {
            Type at = type;
            while (at.is != null) {
                at = at.is;
            }
            return at;
        }

        /** Far above 200 parts the counting and comparing of trees would not end in time. */
        void tick() {
            work++;
            if (work > 3_000_000) {
                throw new Clash();
            }
        }

        int count(Type type) {
            tick();
            Type at = end(type);
            return at.left == null ? 1 : Math.min(FAR, 1 + count(at.left) + count(at.right));
        }

        Type variable() {
            return new Type(Selfkindle.VARIABLE, null, null);
        }

        Type arrow(Type from, Type to) {
            return new Type(Selfkindle.ARROW, from, to);
        }

        Set<Type> variables(Type type) {
            Set<Type> found = new HashSet<>();
            gather(type, found);
            return found;
        }

        void gather(Type type, Set<Type> found) {
            tick();
            Type at = end(type);
            if (at.head == Selfkindle.VARIABLE) {
                found.add(at);
            } else if (at.left != null) {
                gather(at.left, found);
                gather(at.right, found);
            }
        }

        void same(Type one, Type other) {
            tick();
            Type a = end(one);
            Type b = end(other);
            if (a == b) {
                return;
            }
            if (a.head == Selfkindle.VARIABLE) {
                if (variables(b).contains(a)) {
                    throw new Clash();
                }
                a.is = b;
            } else if (b.head == Selfkindle.VARIABLE) {
                same(b, a);
            } else if (a.head != b.head) {
                throw new Clash();
            } else if (a.left != null) {
                same(a.left, b.left);
                same(a.right, b.right);
            }
        }

        Type copy(Type type, Map<Type, Type> others) {
            tick();
            Type at = end(type);
            if (at.head == Selfkindle.VARIABLE) {
                return others.getOrDefault(at, at);
            }
            return at.left == null ? at : new Type(at.head, copy(at.left, others), copy(at.right, others));
        }

        Set<Type> generalIn(Type type, List<Bound> around) {
            Set<Type> general = variables(type);
            for (Bound bound : around) {
                Set<Type> free = variables(bound.type);
                free.removeAll(bound.general);
                general.removeAll(free);
            }
            return general;
        }

        static List<Bound> and(List<Bound> around, Bound... more) {
            List<Bound> inner = new ArrayList<>(around);
            inner.addAll(List.of(more));
            return inner;
        }

        Type infer(Tree tree, List<Bound> around) {
            Type type = found(tree, around);
            all.add(type);
            return type;
        }

        Type found(Tree tree, List<Bound> around) {
            switch (tree.kind) {
                case NUMBER:
                    return integer;
                case NAME: {
                    for (int i = around.size() - 1; ; i--) {
                        Bound bound = around.get(i);
                        if (bound.name == tree.name) {
                            Map<Type, Type> others = new HashMap<>();
                            for (Type general : bound.general) {
                                others.put(general, variable());
                            }
                            return copy(bound.type, others);
                        }
                    }
                }
                case FUNCTION: {
                    Type from = variable();
                    return arrow(from, infer(tree.part(0), and(around, new Bound(tree.name, from, Set.of()))));
                }
                case CALL: {
                    Type called = infer(tree.part(0), around);
                    Type given = variable();
                    same(called, arrow(infer(tree.part(1), around), given));
                    return given;
                }
                case TWO:
                    same(infer(tree.part(0), around), integer);
                    same(infer(tree.part(1), around), integer);
                    return integer;
                case IF: {
                    same(infer(tree.part(0), around), integer);
                    Type second = infer(tree.part(1), around);
                    same(second, infer(tree.part(2), around));
                    return second;
                }
                case LET: {
                    Type value = infer(tree.part(0), around);
                    return infer(tree.part(1), and(around, new Bound(tree.name, value, generalIn(value, around))));
                }
                case REC: {
                    Type from = variable();
                    Type to = variable();
                    Type f = arrow(from, to);
                    same(to, infer(tree.part(0), and(around, new Bound(tree.name, f, Set.of()), new Bound(tree.other, from, Set.of()))));
                    return infer(tree.part(1), and(around, new Bound(tree.name, f, generalIn(f, around))));
                }
                case PAIR: {
                    Type first = infer(tree.part(0), around);
                    return new Type(Selfkindle.BOTH, first, infer(tree.part(1), around));
                }
                case HALF: {
                    Type first = variable();
                    Type second = variable();
                    same(infer(tree.part(0), around), new Type(Selfkindle.BOTH, first, second));
                    return tree.other == 0 ? first : second;
                }
                case RAISE:
                    same(infer(tree.part(0), around), integer);
                    return variable();
                default: {
                    Type body = infer(tree.part(0), around);
                    same(body, infer(tree.part(1), and(around, new Bound(tree.name, integer, Set.of()))));
                    return body;
                }
            }
        }

        void write(Type type, List<Integer> row, Map<Type, Integer> numbers) {
            Type at = end(type);
            if (at.head == Selfkindle.VARIABLE) {
                numbers.putIfAbsent(at, Selfkindle.VARIABLE + numbers.size());
                row.add(numbers.get(at));
                return;
            }
            row.add(at.head);
            if (at.left != null) {
                write(at.left, row, numbers);
                write(at.right, row, numbers);
            }
        }
    }

    // ---- passes

    int made;

    int optimise(int passes) {
        if (passes < 0 || passes > 15) {
            throw new IllegalArgumentException();
        }
        check();
        made = 0;
        for (int pass : new int[] {Selfkindle.FOLD, Selfkindle.INLINE, Selfkindle.DROP, Selfkindle.BETA}) {
            if ((passes & pass) != 0) {
                now = walk(pass, now);
            }
        }
        typeRow = new Typing().typeOf(now);
        if (typeRow == null) {
            throw new AssertionError("a pass has made a program without a type");
        }
        compile();
        return made;
    }

    Tree walk(int pass, Tree tree) {
        List<Tree> parts = new ArrayList<>();
        for (Tree part : tree.parts) {
            parts.add(walk(pass, part));
        }
        Tree anew = tree.with(parts);
        Tree other = switch (pass) {
            case Selfkindle.FOLD -> fold(anew);
            case Selfkindle.INLINE -> inline(anew);
            case Selfkindle.DROP -> drop(anew);
            default -> beta(anew);
        };
        if (other == null) {
            return anew;
        }
        made++;
        return other;
    }

    static Tree fold(Tree tree) {
        if (tree.kind == Kind.TWO && tree.part(0).kind == Kind.NUMBER && tree.part(1).kind == Kind.NUMBER) {
            return new Tree(Kind.NUMBER, sum(tree.other, tree.part(0).number, tree.part(1).number), 0, 0, List.of());
        }
        if (tree.kind == Kind.IF && tree.part(0).kind == Kind.NUMBER) {
            return tree.part(0).number != 0 ? tree.part(1) : tree.part(2);
        }
        if (tree.kind == Kind.HALF && tree.part(0).kind == Kind.PAIR && tree.part(0).part(0).isSimple() && tree.part(0).part(1).isSimple()) {
            return tree.part(0).part(tree.other);
        }
        return null;
    }

    static long sum(int sign, long a, long b) {
        return sign == 0 ? a + b : sign == 1 ? a - b : sign == 2 ? a * b : a < b ? 1 : 0;
    }

    static boolean isIn(int name, Tree tree) {
        if (tree.kind == Kind.NAME) {
            return tree.name == name;
        }
        for (int i = 0; i < tree.parts.size(); i++) {
            if (!tree.boundIn(i).contains(name) && isIn(name, tree.part(i))) {
                return true;
            }
        }
        return false;
    }

    static boolean binds(int name, Tree tree) {
        for (int i = 0; i < tree.parts.size(); i++) {
            if (tree.boundIn(i).contains(name) || binds(name, tree.part(i))) {
                return true;
            }
        }
        return false;
    }

    static Tree put(int name, Tree value, Tree tree) {
        if (tree.kind == Kind.NAME) {
            return tree.name == name ? value : tree;
        }
        List<Tree> parts = new ArrayList<>();
        for (int i = 0; i < tree.parts.size(); i++) {
            parts.add(tree.boundIn(i).contains(name) ? tree.part(i) : put(name, value, tree.part(i)));
        }
        return tree.with(parts);
    }

    static Tree inline(Tree tree) {
        if (tree.kind != Kind.LET) {
            return null;
        }
        Tree value = tree.part(0);
        Tree body = tree.part(1);
        boolean isName = value.kind == Kind.NAME && value.name != tree.name && !binds(value.name, body);
        return value.kind == Kind.NUMBER || isName ? put(tree.name, value, body) : null;
    }

    static Tree drop(Tree tree) {
        boolean isLet = tree.kind == Kind.LET && tree.part(0).isSimple();
        boolean drops = (isLet || tree.kind == Kind.REC) && !isIn(tree.name, tree.part(1));
        return drops ? tree.part(1) : null;
    }

    static Tree beta(Tree tree) {
        if (tree.kind != Kind.CALL || tree.part(0).kind != Kind.FUNCTION || !tree.part(1).isSimple()) {
            return null;
        }
        return new Tree(Kind.LET, 0, tree.part(0).name, 0, List.of(tree.part(1), tree.part(0).part(0)));
    }

    // ---- orders

    static final class Order {
        int what;
        long number;
        int times;
        boolean stops;

        Order(int what, long number) {
            this.what = what;
            this.number = number;
        }
    }

    List<Order> code = new ArrayList<>();

    void compile() {
        code = new ArrayList<>();
        compile(now, new ArrayList<>());
        begin();
    }

    Order put(int what, long number) {
        Order order = new Order(what, number);
        code.add(order);
        return order;
    }

    void compile(Tree tree, List<Integer> around) {
        List<List<Integer>> inner = new ArrayList<>();
        for (int i = 0; i < tree.parts.size(); i++) {
            List<Integer> names = new ArrayList<>(around);
            names.addAll(tree.boundIn(i));
            inner.add(names);
        }
        switch (tree.kind) {
            case NUMBER -> put(Selfkindle.NUM, tree.number);
            case NAME -> put(Selfkindle.GET, around.size() - 1 - around.lastIndexOf(tree.name));
            case FUNCTION -> compileBody(Selfkindle.FN, tree, inner);
            case CALL -> compileBoth(Selfkindle.CALL, 0, tree, inner);
            case TWO -> compileBoth(Selfkindle.TWO, tree.other, tree, inner);
            case PAIR -> compileBoth(Selfkindle.PAIR, 0, tree, inner);
            case IF -> {
                compile(tree.part(0), inner.get(0));
                Order branch = put(Selfkindle.IF, 0);
                int from = code.size();
                compile(tree.part(1), inner.get(1));
                Order otherwise = put(Selfkindle.ELSE, 0);
                branch.number = code.size() - from;
                from = code.size();
                compile(tree.part(2), inner.get(2));
                otherwise.number = code.size() - from;
            }
            case LET -> {
                compile(tree.part(0), inner.get(0));
                put(Selfkindle.BIND, 0);
                compile(tree.part(1), inner.get(1));
                put(Selfkindle.UNBIND, 0);
            }
            case REC -> {
                compileBody(Selfkindle.REC, tree, inner);
                put(Selfkindle.BIND, 0);
                compile(tree.part(1), inner.get(1));
                put(Selfkindle.UNBIND, 0);
            }
            case HALF -> {
                compile(tree.part(0), inner.get(0));
                put(Selfkindle.HALF, tree.other);
            }
            case RAISE -> {
                compile(tree.part(0), inner.get(0));
                put(Selfkindle.RAISE, 0);
            }
            default -> {
                Order attempt = put(Selfkindle.TRY, 0);
                int from = code.size();
                compile(tree.part(0), inner.get(0));
                Order end = put(Selfkindle.END, 0);
                attempt.number = code.size() - from;
                from = code.size();
                compile(tree.part(1), inner.get(1));
                put(Selfkindle.UNBIND, 0);
                end.number = code.size() - from;
            }
        }
    }

    void compileBody(int what, Tree tree, List<List<Integer>> inner) {
        Order order = put(what, 0);
        int from = code.size();
        compile(tree.part(0), inner.get(0));
        put(Selfkindle.RETURN, 0);
        order.number = code.size() - from;
    }

    void compileBoth(int what, int number, Tree tree, List<List<Integer>> inner) {
        compile(tree.part(0), inner.get(0));
        compile(tree.part(1), inner.get(1));
        put(what, number);
    }

    int orders() {
        check();
        return code.size();
    }

    Order orderAt(int place) {
        if (wrong != 0 || place < 0 || place >= code.size()) {
            throw new IndexOutOfBoundsException();
        }
        return code.get(place);
    }

    long order(int place, int what) {
        Order order = orderAt(place);
        if (what < 0 || what > 2) {
            throw new IllegalArgumentException();
        }
        return what == 0 ? order.what : what == 1 ? order.number : order.times;
    }

    boolean stop(int place, boolean is) {
        Order order = orderAt(place);
        boolean did = order.stops;
        order.stops = is;
        return did;
    }

    // ---- the machine

    /** Names that are bound, the nearest one first. */
    static final class Names {
        Object value;
        final Names outer;

        Names(Object value, Names outer) {
            this.value = value;
            this.outer = outer;
        }

        static int count(Names names) {
            int all = 0;
            for (Names at = names; at != null; at = at.outer) {
                all++;
            }
            return all;
        }

        static Object get(Names names, long distance) {
            Names at = names;
            for (long i = 0; i < distance; i++) {
                at = at.outer;
            }
            return at.value;
        }
    }

    record Two(Object first, Object second) { }

    record Closure(int place, Names names) { }

    record Call(int place, Names names) { }

    record Try(int place, List<Object> stack, Names names, List<Call> calls) { }

    ArrayList<Object> stack = new ArrayList<>();
    Names names;
    ArrayList<Call> calls = new ArrayList<>();
    Deque<Try> tries = new ArrayDeque<>();
    int place;
    int steps;
    int state;

    void begin() {
        for (Order order : code) {
            order.times = 0;
        }
        stack = new ArrayList<>();
        names = null;
        calls = new ArrayList<>();
        tries = new ArrayDeque<>();
        place = 0;
        steps = 0;
        state = Selfkindle.GOING;
    }

    void again() {
        check();
        begin();
    }

    int state() {
        check();
        return state;
    }

    int machine(int what) {
        if (what < 0 || what > 5) {
            throw new IllegalArgumentException();
        }
        check();
        return new int[] {place, steps, stack.size(), Names.count(names), calls.size(), tries.size()}[what];
    }

    long value() {
        check();
        if (state != Selfkindle.NUMBER && state != Selfkindle.RAISED) {
            throw new IllegalStateException();
        }
        return (Long) stack.get(stack.size() - 1);
    }

    int go(int most) {
        if (most < 1 || most > 2000) {
            throw new IllegalArgumentException();
        }
        check();
        if (state != Selfkindle.GOING) {
            throw new IllegalStateException();
        }
        boolean isFirst = true;
        for (int i = 0; i < most; i++) {
            Order order = code.get(place);
            if (order.stops && !isFirst) {
                break;
            }
            isFirst = false;
            boolean isMore = order.what == Selfkindle.CALL || order.what == Selfkindle.TRY;
            if (steps == 2000 || isMore && calls.size() + tries.size() == 200) {
                state = Selfkindle.TIRED;
                break;
            }
            if (order.what == Selfkindle.RAISE && tries.isEmpty()) {
                state = Selfkindle.RAISED;
                break;
            }
            order.times++;
            steps++;
            step(order);
            if (place == code.size()) {
                state = kindOf(stack.get(stack.size() - 1));
                break;
            }
        }
        return state;
    }

    static int kindOf(Object value) {
        return value instanceof Long ? Selfkindle.NUMBER : value instanceof Two ? Selfkindle.PAIR_OF : Selfkindle.FUNCTION;
    }

    Object take() {
        return stack.remove(stack.size() - 1);
    }

    void step(Order order) {
        place++;
        int k = (int) order.number;
        switch (order.what) {
            case Selfkindle.NUM -> stack.add(order.number);
            case Selfkindle.GET -> stack.add(Names.get(names, order.number));
            case Selfkindle.FN -> {
                stack.add(new Closure(place, names));
                place += k;
            }
            case Selfkindle.REC -> {
                Names itself = new Names(null, names);
                itself.value = new Closure(place, itself);
                stack.add(itself.value);
                place += k;
            }
            case Selfkindle.CALL -> {
                Object value = take();
                Closure called = (Closure) take();
                calls.add(new Call(place, names));
                names = new Names(value, called.names);
                place = called.place;
            }
            case Selfkindle.RETURN -> {
                Call call = calls.remove(calls.size() - 1);
                place = call.place;
                names = call.names;
            }
            case Selfkindle.BIND -> names = new Names(take(), names);
            case Selfkindle.UNBIND -> names = names.outer;
            case Selfkindle.TWO -> {
                long second = (Long) take();
                stack.add(sum(k, (Long) take(), second));
            }
            case Selfkindle.IF -> place += (Long) take() == 0 ? k : 0;
            case Selfkindle.ELSE -> place += k;
            case Selfkindle.PAIR -> {
                Object second = take();
                stack.add(new Two(take(), second));
            }
            case Selfkindle.HALF -> {
                Two two = (Two) take();
                stack.add(k == 0 ? two.first : two.second);
            }
            case Selfkindle.TRY -> tries.push(new Try(place + k, List.copyOf(stack), names, List.copyOf(calls)));
            case Selfkindle.END -> {
                tries.pop();
                place += k;
            }
            default -> {
                Object raised = take();
                Try attempt = tries.pop();
                stack = new ArrayList<>(attempt.stack);
                calls = new ArrayList<>(attempt.calls);
                names = new Names(raised, attempt.names);
                place = attempt.place;
            }
        }
    }

    // ---- the interpreter

    static final class Raised extends RuntimeException {
        private static final long serialVersionUID = 1L;
        final long number;

        Raised(long number) {
            super(null, null, false, false);
            this.number = number;
        }
    }

    static final class Tired extends RuntimeException {
        private static final long serialVersionUID = 1L;

        Tired() {
            super(null, null, false, false);
        }
    }

    static final class Lambda {
        final int name;
        final Tree body;
        Map<Integer, Object> around;

        Lambda(int name, Tree body) {
            this.name = name;
            this.body = body;
        }
    }

    int made500;
    int deepest;

    Object evaluate(Tree tree, Map<Integer, Object> around, int depth) {
        deepest = Math.max(deepest, depth);
        if (depth > 120) {
            throw new Tired();
        }
        switch (tree.kind) {
            case NUMBER:
                return tree.number;
            case NAME:
                return around.get(tree.name);
            case FUNCTION: {
                Lambda lambda = new Lambda(tree.name, tree.part(0));
                lambda.around = around;
                return lambda;
            }
            case CALL: {
                Lambda called = (Lambda) evaluate(tree.part(0), around, depth + 1);
                Object value = evaluate(tree.part(1), around, depth + 1);
                if (made500 == 500) {
                    throw new Tired();
                }
                made500++;
                return evaluate(called.body, and(called.around, called.name, value), depth + 1);
            }
            case TWO: {
                long first = (Long) evaluate(tree.part(0), around, depth + 1);
                return sum(tree.other, first, (Long) evaluate(tree.part(1), around, depth + 1));
            }
            case IF:
                return evaluate(tree.part((Long) evaluate(tree.part(0), around, depth + 1) != 0 ? 1 : 2), around, depth + 1);
            case LET:
                return evaluate(tree.part(1), and(around, tree.name, evaluate(tree.part(0), around, depth + 1)), depth + 1);
            case REC: {
                Lambda lambda = new Lambda(tree.other, tree.part(0));
                lambda.around = and(around, tree.name, lambda);
                return evaluate(tree.part(1), lambda.around, depth + 1);
            }
            case PAIR: {
                Object first = evaluate(tree.part(0), around, depth + 1);
                return new Two(first, evaluate(tree.part(1), around, depth + 1));
            }
            case HALF: {
                Two two = (Two) evaluate(tree.part(0), around, depth + 1);
                return tree.other == 0 ? two.first : two.second;
            }
            case RAISE:
                throw new Raised((Long) evaluate(tree.part(0), around, depth + 1));
            default:
                try {
                    return evaluate(tree.part(0), around, depth + 1);
                } catch (Raised raised) {
                    return evaluate(tree.part(1), and(around, tree.name, raised.number), depth + 1);
                }
        }
    }

    static Map<Integer, Object> and(Map<Integer, Object> around, int name, Object value) {
        Map<Integer, Object> inner = new LinkedHashMap<>(around);
        inner.put(name, value);
        return inner;
    }

    Object result() {
        check();
        made500 = 0;
        deepest = 0;
        try {
            return evaluate(told, new LinkedHashMap<>(), 1);
        } catch (Raised raised) {
            return raised;
        } catch (Tired tired) {
            return tired;
        }
    }

    int stateAnew() {
        Object result = result();
        return result instanceof Raised ? Selfkindle.RAISED : result instanceof Tired ? Selfkindle.TIRED : kindOf(result);
    }

    long valueAnew() {
        Object result = result();
        if (result instanceof Raised raised) {
            return raised.number;
        }
        if (result instanceof Long number) {
            return number;
        }
        throw new IllegalStateException();
    }
}
