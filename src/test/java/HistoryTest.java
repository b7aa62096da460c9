import java.util.ArrayList;
import java.util.List;

/**
 * All promises, whatever the calls before were: behind a fault of each kind, behind another circuit or another
 * assertion, behind REFUSED and FULL the answers are those of the model, which knows of nothing but what stands.
 */
public final class HistoryTest {
    private static final int FEW = 3;

    /** Something that is told; its name is printed if an answer behind it is not as due. */
    private record Event(String name, Telling telling) {
    }

    private interface Telling {
        void to(Story story);
    }

    private static final String SMALL = "input a, b; wire w = a & b; latch q = w | q;";
    private static final String OTHER = "latch q = !q & b; input b; wire a = q ^ b;";
    private static final String LARGE = "input a, b; latch q = n36 ^ a; wire n0 = a | b; "
        + chain(1, 36) + "\n";

    private static final String NINE = "given a is A^B^C^D^E^F^G^H^I if A | I at 0 to 3, b is A, b is B at 1 "
        + "then q is A at 3, a is I at 1 to 2, b is B & C.";
    private static final String LATE = "given a is T9 at 0 to 11, b is T9 | S at 0 to 11 "
        + "then q is T9 if S at 5 to 11, a is S if T9.";
    private static final String NO_VARIABLE = "given a is 1 then q is 0.";
    private static final String ALL_OUT = "given a is X1, a is !X1 then b is 1 at 1.";
    private static final String MANY = "given " + Drive.repeat("a is A", ",", 23) + ", b is B at 0 to 10 then "
        + Drive.repeat("b is A", ",", 24);

    private static final String[] CIRCUITS = {SMALL, OTHER, LARGE, ""};
    private static final String[] ASSERTIONS = {NINE, LATE, NO_VARIABLE, ALL_OUT, MANY + "."};

    private static final String[] FAULTY_CIRCUITS = {
        LARGE + "?", LARGE + "input last;", SMALL + "input a;", SMALL + " wire v = a & none;",
        "wire a = b; latch q = a; wire b = !a;", "input a, b; wire w = a &", "input q, toolongname;",
        "input b; wire a = " + Drive.repeat("b", "^", 301) + ";", "input b; latch q = !!!!!(((((!b)))));", "given"
    };
    private static final String[] FAULTY_ASSERTIONS = {
        MANY, MANY + ", b is 0.", MANY + "..", MANY + ".?", "given a is A^B^C^D^E^F^G^H^I then q is Z | A | J1.",
        "given a is A at 11 then q is A at 11 to 10.", "given a is A, b is B then none is A.",
        "given a is " + Drive.repeat("Y", "&", 150) + " then b is " + Drive.repeat("Y", "|", 151) + ".",
        "given a is 1 at 12 then a is 1.", "given a is ABCDE then a is 1.", "input a;", ""
    };

    public static void main(String[] args) {
        List<Event> events = events();
        for (Event first : events) {
            follow(first);
            for (Event second : events) {
                follow(first, second);
                follow(circuit(SMALL), assertion(LATE), first, second);
            }
            for (String circuit : CIRCUITS) {
                for (String assertion : ASSERTIONS) {
                    follow(first, circuit(circuit), assertion(assertion));
                    follow(circuit(circuit), assertion(assertion), first);
                }
            }
        }
        Drive.finish("HistoryTest");
    }

    private static String chain(int from, int to) {
        StringBuilder wires = new StringBuilder();
        for (int i = from; i <= to; i++) {
            wires.append("wire n").append(i).append(" = !n").append(i - 1).append(i % 2 == 0 ? " ^ a; " : " | b; ");
        }
        return wires.toString();
    }

    private static List<Event> events() {
        List<Event> all = new ArrayList<>();
        for (String[] texts : new String[][] {CIRCUITS, FAULTY_CIRCUITS}) {
            for (String text : texts) {
                all.add(circuit(text));
            }
        }
        for (String[] texts : new String[][] {ASSERTIONS, FAULTY_ASSERTIONS}) {
            for (String text : texts) {
                all.add(assertion(text));
            }
        }
        all.add(new Event("refusals", story -> story.tell(8, HistoryTest::beRefused)));
        all.add(new Event("questions", story -> story.tell(14, HistoryTest::ask)));
        all.add(new Event("a full tape", story -> story.tell(104, HistoryTest::fill)));
        all.add(new Event("a cut tape", story -> story.tell(3, HistoryTest::cut)));
        return all;
    }

    private static Event circuit(String text) {
        return new Event("circuit '" + text + "'", story -> story.circuit(text));
    }

    private static Event assertion(String text) {
        return new Event("assertion '" + text + "'", story -> story.assertion(text));
    }

    private static void follow(Event... events) {
        Story story = new Story();
        StringBuilder names = new StringBuilder();
        for (Event event : events) {
            event.telling.to(story);
            names.append(names.length() == 0 ? "" : ", then ").append(event.name);
        }
        int before = Drive.wrong();
        story.compare(FEW);
        if (Drive.wrong() != before) {
            System.out.println("behind " + names);
        }
    }

    private static void beRefused(TrajectoryCheck x) {
        int refused = TrajectoryCheck.REFUSED;
        Drive.due("end below 0", x.end(-1), refused);
        Drive.due("end behind the tape", x.end(1), refused);
        Drive.due("end far behind the tape", x.end(2001), refused);
        Drive.due("count below 0", x.count(-1), refused);
        Drive.due("count of another what", x.count(8), refused);
        Drive.due("shortfall below 0", x.shortfall(0, -1), refused);
        Drive.due("shortfall of another what", x.shortfall(0, 2), refused);
        Drive.due("the tape is empty", x.end(0), 0);
    }

    /** With numbers that are there and numbers that are not; the answers are not looked at. */
    private static void ask(TrajectoryCheck x) {
        x.fails();
        x.excluded();
        x.failing(0);
        x.failing(Integer.MAX_VALUE);
        x.shortfall(0, 0);
        x.shortfall(511, 1);
        x.shortfall(Integer.MIN_VALUE, 1);
        x.value(0, 0, 0);
        x.value(39, 11, 511);
        x.matters(0, 0, 0);
        x.matters(39, 11, 8);
        x.cone(0);
        x.cone(39);
        x.count(7);
    }

    private static void fill(TrajectoryCheck x) {
        for (int fed = 20; fed <= 2000; fed += 20) {
            Drive.due("feed", x.feed(-1, fed, 0, Integer.MIN_VALUE, Integer.MAX_VALUE), fed);
        }
        Drive.due("feed on a full tape", x.feed(1, 2, 3, 4, 5), TrajectoryCheck.FULL);
        Drive.due("end behind a full tape", x.end(2001), TrajectoryCheck.REFUSED);
        Drive.due("end of a full tape", x.end(2000), 2000);
        Drive.due("end of nothing", x.end(0), 0);
    }

    private static void cut(TrajectoryCheck x) {
        x.feed(0x696e7075, 0x7420613b, 0x77697265, 0x20623d21, 0x613b2020);
        Drive.due("end", x.end(9), 9);
        Drive.due("end of nothing", x.end(0), 0);
    }
}
