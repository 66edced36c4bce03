import java.util.ArrayList;
import java.util.List;

/**
 * Every call of the face with arguments at and beyond their edges, in every kind of state: a refused one throws what
 * the document names first, and nothing has changed; all others are answered.
 */
public final class RefusalsTest extends Checking {
    private static final int NO_PROGRAM = -1;
    private static final int[] NAMES = {Integer.MIN_VALUE, -1, 0, 9, 10, Integer.MAX_VALUE};

    private interface Maker {
        void make(Selfkindle s);
    }

    /** How an object is made, how large the terms on its pile are, the top one first, and how it is with its program. */
    private record State(String name, Maker maker, int[] sizes, int wrong, int orders, int outcome) {
        Selfkindle made() {
            Selfkindle s = new Selfkindle();
            maker.make(s);
            return s;
        }

        boolean hasProgram() {
            return wrong == 0;
        }

        /** How many parts a term of the top ones would have. */
        int parts(int terms) {
            int all = 1;
            for (int i = 0; i < terms; i++) {
                all += sizes[i];
            }
            return all;
        }
    }

    /** What is due of a call in a state: the exception, or "nothing". */
    private interface Due {
        String in(State state);
    }

    private record Asked(String text, On call, Due due) { }

    private static final List<Asked> ALL = new ArrayList<>();

    public static void main(String[] args) {
        askTerms();
        askNamed();
        askProgram();
        askOrders();
        askMachine();
        for (State state : states()) {
            List<String> before = Seen.of(state.made());
            for (Asked asked : ALL) {
                holds(asked.text + " of " + state.name, () -> check(state, asked, before));
            }
            if (state.hasProgram()) {
                holds("how many orders has " + state.name, () -> due(state.orders, state.made().orders()));
            }
        }
        finish();
    }

    private static void check(State state, Asked asked, List<String> before) {
        Selfkindle s = state.made();
        String due = asked.due.in(state);
        refuses(due, () -> asked.call.ask(s));
        if (!due.equals("nothing")) {
            List<String> now = Seen.of(s);
            for (int i = 0; i < before.size() && i < now.size(); i++) {
                if (!before.get(i).equals(now.get(i))) {
                    same("nothing changed, " + before.get(i), now.get(i));
                    return;
                }
            }
            due(before.size(), now.size());
        }
    }

    // ---- the states

    private static void pile(Selfkindle s) {
        s.name(3);
        s.number(7L);
        s.number(-8L);
        s.pair();
    }

    private static final int[] PILE = {3, 1};

    private static void tellAll(Selfkindle s, Model.Tree program) {
        tell(s, program);
        s.program();
        pile(s);
    }

    private static List<State> states() {
        List<State> all = new ArrayList<>();
        all.add(new State("a new object", s -> { }, new int[0], NO_PROGRAM, 0, 0));
        pileStates(all);
        all.add(new State("a program with a name that nobody binds", s -> tellAll(s, two(0, x(2), num(1))), PILE, 1, 0, 0));
        all.add(new State("a program without a type", s -> tellAll(s, app(num(1), num(2))), PILE, 2, 0, 0));
        all.add(new State("a wrong program behind a right one", s -> {
            tell(s, num(4));
            s.program();
            s.go(1);
            tellAll(s, x(2));
        }, PILE, 1, 0, 0));
        goingStates(all);
        endedStates(all);
        return all;
    }

    private static void pileStates(List<State> all) {
        all.add(new State("a pile of one", s -> s.name(4), new int[] {1}, NO_PROGRAM, 0, 0));
        all.add(new State("a pile of two", s -> {
            s.number(5L);
            s.name(4);
        }, new int[] {1, 1}, NO_PROGRAM, 0, 0));
        all.add(new State("a pile of 20", s -> {
            for (int i = 0; i < 20; i++) {
                s.number(i);
            }
        }, new int[] {1, 1, 1, 1, 1, 1, 1, 1, 1, 1, 1, 1, 1, 1, 1, 1, 1, 1, 1, 1}, NO_PROGRAM, 0, 0));
        int[][] sizes = {{60}, {59}, {1, 60}, {60, 1}, {1, 59}, {59, 1}, {30, 30}, {1, 58}, {58, 1}, {30, 29}, {20, 20, 20}, {20, 20, 19}, {1, 1, 58}, {58, 1, 1},
            {1, 57, 1}, {1, 1, 57}, {1, 58, 1}};
        for (int[] row : sizes) {
            StringBuilder name = new StringBuilder("a pile of terms of");
            for (int size : row) {
                name.append(' ').append(size);
            }
            all.add(new State(name.toString(), s -> {
                for (int i = row.length - 1; i >= 0; i--) {
                    tellParts(s, row[i]);
                }
            }, row, NO_PROGRAM, 0, 0));
        }
    }

    /** REC, an if of 1, 5 and 1 orders with IF and ELSE, RETURN, BIND, a call of 3, UNBIND. */
    private static final int LOOP = 16;
    /** A loop with seven sums in and around it. */
    private static final int BUSY = LOOP + 2 * 7;

    private static Model.Tree loop() {
        return countdown(next(), 3);
    }

    private static void goingStates(List<State> all) {
        all.add(new State("a program that has not begun", s -> tellAll(s, loop()), PILE, 0, LOOP, Selfkindle.GOING));
        all.add(new State("a program on its way", s -> {
            tellAll(s, loop());
            s.stop(3, true);
            s.stop(5, true);
            s.go(2000);
            s.go(2000);
            s.go(1);
            s.stateAnew();
        }, PILE, 0, LOOP, Selfkindle.GOING));
        all.add(new State("a program behind 2000 steps", s -> {
            tellAll(s, two(0, busy(5, false), num(1)));
            s.go(2000);
        }, PILE, 0, BUSY, Selfkindle.GOING));
        all.add(new State("a program that passes have made", s -> {
            tellAll(s, pair(two(0, num(1), num(2)), app(fn(0, x(0)), num(4))));
            s.optimise(15);
            s.stop(2, true);
            s.go(2000);
        }, PILE, 0, 6, Selfkindle.GOING));
    }

    private static void endedStates(List<State> all) {
        ended(all, "a number", loop(), LOOP, Selfkindle.NUMBER);
        ended(all, "a function", fn(0, x(0)), 3, Selfkindle.FUNCTION);
        ended(all, "a pair", pair(num(1), num(2)), 3, Selfkindle.PAIR_OF);
        ended(all, "a raised number", two(0, num(4), raise(num(9))), 4, Selfkindle.RAISED);
        ended(all, "201 calls", countdown(next(), 200), LOOP, Selfkindle.TIRED);
        ended(all, "2001 steps", two(0, busy(5, false), num(1)), BUSY, Selfkindle.TIRED);
    }

    private static void ended(List<State> all, String how, Model.Tree program, int orders, int outcome) {
        all.add(new State("a program that ended with " + how, s -> {
            tellAll(s, program);
            s.stop(1, true);
            goOn(s, 2000);
        }, PILE, 0, orders, outcome));
    }

    // ---- the calls

    private static void ask(String text, On call, Due due) {
        ALL.add(new Asked(text, call, due));
    }

    /** The first exception of those that apply. */
    private static String first(boolean isFirst, String first, boolean isSecond, String second) {
        return isFirst ? first : isSecond ? second : "nothing";
    }

    private static Due joining(boolean isBad, String bad, int terms) {
        return state -> first(isBad, bad, state.sizes.length < terms || state.parts(terms) > 60, STATE);
    }

    private static Due putting(boolean isBad) {
        return state -> first(isBad, INDEX, state.sizes.length >= 20, STATE);
    }

    private static Due needing(boolean isBad, String bad) {
        return state -> first(isBad, bad, !state.hasProgram(), STATE);
    }

    private static boolean isNoName(int name) {
        return name < 0 || name > 9;
    }

    private static void askTerms() {
        for (long number : new long[] {Long.MIN_VALUE, -1L, 0L, Long.MAX_VALUE}) {
            ask("number " + number, s -> s.number(number), putting(false));
        }
        for (int sign : new int[] {Integer.MIN_VALUE, -1, 0, 3, 4, Integer.MAX_VALUE}) {
            ask("two " + sign, s -> s.two(sign), joining(sign < 0 || sign > 3, ARGUMENT, 2));
        }
        ask("call", s -> s.call(), joining(false, "", 2));
        ask("choose", s -> s.choose(), joining(false, "", 3));
        ask("pair", s -> s.pair(), joining(false, "", 2));
        ask("half false", s -> s.half(false), joining(false, "", 1));
        ask("half true", s -> s.half(true), joining(false, "", 1));
        ask("raise", s -> s.raise(), joining(false, "", 1));
        ask("program", s -> s.program(), state -> first(state.sizes.length == 0, STATE, false, ""));
    }

    private static void askNamed() {
        for (int name : NAMES) {
            boolean isBad = isNoName(name);
            ask("name " + name, s -> s.name(name), putting(isBad));
            ask("function " + name, s -> s.function(name), joining(isBad, INDEX, 1));
            ask("let " + name, s -> s.let(name), joining(isBad, INDEX, 2));
            ask("handle " + name, s -> s.handle(name), joining(isBad, INDEX, 2));
            for (int other : NAMES) {
                ask("rec " + name + " " + other, s -> s.rec(name, other), joining(isBad || isNoName(other), INDEX, 2));
            }
        }
    }

    private static void askProgram() {
        ask("fault", s -> s.fault(), state -> first(state.wrong == NO_PROGRAM, STATE, false, ""));
        ask("size", s -> s.size(), state -> "nothing");
        ask("orders", s -> s.orders(), needing(false, ""));
        ask("state", s -> s.state(), needing(false, ""));
        ask("stateAnew", s -> s.stateAnew(), needing(false, ""));
        ask("again", s -> {
            s.again();
            return 0;
        }, needing(false, ""));
        for (int place : new int[] {Integer.MIN_VALUE, -1, 0, 199, 200, Integer.MAX_VALUE}) {
            ask("type " + place, s -> s.type(place), needing(place < 0, INDEX));
        }
        for (int passes : new int[] {Integer.MIN_VALUE, -1, 0, 15, 16, 17, 32, Integer.MAX_VALUE}) {
            ask("optimise " + passes, s -> s.optimise(passes), needing(passes < 0 || passes > 15, ARGUMENT));
        }
    }

    /** A place told from 0, or from the end. */
    private static int placeOf(Selfkindle s, int place, boolean isFromEnd) {
        boolean isRight = isFromEnd && thrownBy(() -> s.orders()).equals("nothing");
        return isRight ? s.orders() + place : place;
    }

    private static boolean isNoOrder(State state, int place, boolean isFromEnd) {
        int at = isFromEnd ? state.orders + place : place;
        return !state.hasProgram() || at < 0 || at >= state.orders;
    }

    private static void askOrders() {
        int[][] places = {{Integer.MIN_VALUE, 0}, {-1, 0}, {0, 0}, {-1, 1}, {0, 1}, {1, 1}, {Integer.MAX_VALUE, 0}};
        for (int[] row : places) {
            boolean isFromEnd = row[1] == 1;
            String place = isFromEnd ? "the end " + row[0] : "" + row[0];
            for (int what : new int[] {Integer.MIN_VALUE, -1, 0, 2, 3, Integer.MAX_VALUE}) {
                ask("order " + place + " what " + what, s -> s.order(placeOf(s, row[0], isFromEnd), what),
                    state -> first(isNoOrder(state, row[0], isFromEnd), INDEX, what < 0 || what > 2, ARGUMENT));
            }
            Due due = state -> first(isNoOrder(state, row[0], isFromEnd), INDEX, false, "");
            ask("stop " + place + " true", s -> s.stop(placeOf(s, row[0], isFromEnd), true) ? 1 : 0, due);
            ask("stop " + place + " false", s -> s.stop(placeOf(s, row[0], isFromEnd), false) ? 1 : 0, due);
        }
    }

    private static void askMachine() {
        for (int steps : new int[] {Integer.MIN_VALUE, -1, 0, 1, 2000, 2001, Integer.MAX_VALUE}) {
            ask("go " + steps, s -> s.go(steps),
                state -> first(steps < 1 || steps > 2000, ARGUMENT, !state.hasProgram() || state.outcome != Selfkindle.GOING, STATE));
        }
        for (int what : new int[] {Integer.MIN_VALUE, -1, 0, 5, 6, Integer.MAX_VALUE}) {
            ask("machine " + what, s -> s.machine(what), needing(what < 0 || what > 5, ARGUMENT));
        }
        ask("value", s -> s.value(), state -> {
            boolean isNumber = state.outcome == Selfkindle.NUMBER || state.outcome == Selfkindle.RAISED;
            return first(!state.hasProgram() || !isNumber, STATE, false, "");
        });
        ask("valueAnew", s -> s.valueAnew(), state -> {
            boolean isNone = state.name.endsWith("a function") || state.name.endsWith("a pair") || state.name.endsWith("201 calls");
            boolean isTired = state.name.endsWith("2000 steps") || state.name.endsWith("2001 steps");
            return first(!state.hasProgram() || isNone || isTired || state.name.endsWith("have made"), STATE, false, "");
        });
    }
}
