import java.util.ArrayList;
import java.util.List;

/**
 * An object, the model, and all that both were told: before the object has had more calls than it is good for, a new
 * one is told the same and takes its place.
 */
final class Story {
    private static final int MOST_CALLS = 512;

    /** Calls that are made on the object alone, since they change neither circuit nor assertion. */
    interface Deed {
        void on(TrajectoryCheck x);
    }

    private record Step(int calls, Deed deed) {
    }

    private final Model model = new Model();
    private final List<Step> steps = new ArrayList<>();
    private TrajectoryCheck asked = new TrajectoryCheck();
    private int calls = 0;

    Model model() {
        return model;
    }

    void circuit(String text) {
        int due = model.circuit(text);
        tell(callsFor(text), x -> Drive.circuit(x, text, due));
    }

    void assertion(String text) {
        int due = model.assertion(text);
        tell(callsFor(text), x -> Drive.assertion(x, text, due));
    }

    private static int callsFor(String text) {
        return (text.length() + 19) / 20 + 2;
    }

    void tell(int callsOfDeed, Deed deed) {
        Step next = new Step(callsOfDeed, deed);
        steps.add(next);
        if (calls + callsOfDeed > MOST_CALLS) {
            renew();
        } else {
            take(next);
        }
    }

    private void renew() {
        asked = new TrajectoryCheck();
        calls = 0;
        for (Step step : steps) {
            take(step);
        }
        Drive.due("calls of a story", calls <= MOST_CALLS ? 1 : 0, 1);
    }

    private void take(Step step) {
        calls += step.calls;
        step.deed.on(asked);
    }

    /** The object for one more call. */
    private TrajectoryCheck ask() {
        if (calls >= MOST_CALLS) {
            renew();
        }
        calls++;
        return asked;
    }

    /** Asks everything, of each kind of argument at most so many, and what lies next to the first and the last. */
    void compare(int most) {
        Drive.due("fails", ask().fails(), model.fails());
        Drive.due("excluded", ask().excluded(), model.excluded());
        List<Integer> failing = model.failing();
        for (int k : some(failing.size(), most)) {
            Drive.due("failing", ask().failing(k), k < 0 || k == failing.size() ? Model.NONE : failing.get(k));
        }
        for (int what = -1; what <= 8; what++) {
            Drive.due("count", ask().count(what), model.count(what));
        }
        for (int number : some(assignments(), most)) {
            for (int what = 0; what <= 2; what++) {
                Drive.due("shortfall", ask().shortfall(number, what), model.shortfall(number, what));
            }
        }
        for (int node : some(model.count(0), most)) {
            Drive.due("cone", ask().cone(node), model.cone(node));
            for (int time : some(model.count(7) + 1, most)) {
                compareMoment(node, time, most);
            }
        }
    }

    private void compareMoment(int node, int time, int most) {
        for (int number : some(assignments(), most)) {
            Drive.due("value", ask().value(node, time, number), model.value(node, time, number));
        }
        for (int v : some(model.count(4), most)) {
            Drive.due("matters", ask().matters(node, time, v), model.matters(node, time, v));
        }
    }

    private int assignments() {
        return 1 << model.count(4);
    }

    /** -1, the size, and of the numbers between them all or, if they are too many, a spread with both ends. */
    private static List<Integer> some(int size, int most) {
        List<Integer> chosen = new ArrayList<>(List.of(-1, size));
        int taken = Math.min(size, most);
        for (int i = 0; i < taken; i++) {
            chosen.add(size <= most ? i : (int) ((long) i * (size - 1) / (most - 1)));
        }
        return chosen;
    }
}
