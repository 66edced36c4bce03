import java.util.ArrayList;
import java.util.List;

/**
 * All that an object tells: first what can be asked without a change, then what comes of it when it goes on,
 * begins again, is optimised, and when its pile is taken off, term by term. Two objects that are the same in all
 * of this are in the same state.
 */
final class Seen {
    private final Selfkindle s;
    private final List<String> rows = new ArrayList<>();

    private Seen(Selfkindle s) {
        this.s = s;
    }

    static List<String> of(Selfkindle s) {
        Seen seen = new Seen(s);
        seen.asIs();
        seen.runs("goes on");
        seen.begins();
        seen.ask("optimise", () -> s.optimise(15));
        seen.asIs();
        seen.takeOff();
        return seen.rows;
    }

    private String ask(String what, Checking.Call call) {
        String answer;
        try {
            answer = Long.toString(call.answer());
        } catch (IndexOutOfBoundsException | IllegalStateException | IllegalArgumentException thrown) {
            answer = thrown.getClass().getSimpleName();
        }
        rows.add(what + " " + answer);
        return answer;
    }

    private void asIs() {
        ask("fault", () -> s.fault());
        ask("size", () -> s.size());
        ask("orders", () -> s.orders());
        ask("state", () -> s.state());
        ask("value", () -> s.value());
        ask("stateAnew", () -> s.stateAnew());
        ask("valueAnew", () -> s.valueAnew());
        for (int i = 0; i < 6; i++) {
            int what = i;
            ask("machine " + i, () -> s.machine(what));
        }
        String part = "";
        for (int i = 0; i < 201 && !part.equals("-1"); i++) {
            int place = i;
            part = ask("type " + i, () -> s.type(place));
        }
        orders();
    }

    private void orders() {
        String stops = "";
        for (int i = 0; i < 160 && stops.length() < 2; i++) {
            int place = i;
            for (int k = 0; k < 3; k++) {
                int what = k;
                ask("order " + i + " " + k, () -> s.order(place, what));
            }
            stops = ask("stop " + i, () -> s.stop(place, false) ? 1 : 0);
            if (stops.equals("1")) {
                s.stop(place, true);
            }
        }
    }

    private void runs(String how) {
        rows.add(how);
        for (int i = 0; i < 4; i++) {
            ask("go", () -> s.go(5));
            ask("place", () -> s.machine(0));
            ask("values", () -> s.machine(2));
            ask("names", () -> s.machine(3));
        }
        ask("go", () -> s.go(2000));
        ask("go", () -> s.go(2000));
        ask("value", () -> s.value());
        ask("steps", () -> s.machine(1));
    }

    private void begins() {
        ask("again", () -> {
            s.again();
            return 0;
        });
        runs("begins again");
    }

    /** Functions of all names bind whatever is not bound, so that the orders tell the term. */
    private void takeOff() {
        String parts = "";
        for (int i = 0; i < 21 && parts.length() < 3; i++) {
            for (int k = 0; k < 10; k++) {
                int name = k;
                ask("function", () -> s.function(name));
            }
            parts = ask("program", () -> s.program());
            ask("fault", () -> s.fault());
            ask("size", () -> s.size());
            orders();
        }
    }
}
