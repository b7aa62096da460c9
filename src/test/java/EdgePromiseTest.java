/** The edges of promises 1 and 6 to 13, those of int among their arguments: a test for each sentence. */
public final class EdgePromiseTest {
    private static final int NONE = TrajectoryCheck.NONE, REFUSED = TrajectoryCheck.REFUSED, FULL = TrajectoryCheck.FULL, X = 2, OUT = 3;
    private static final int[] ALL_INTS = {
        Integer.MIN_VALUE, Integer.MIN_VALUE + 1, -2, -1, 0, 1, 2, 3, 31, 32, 63, 64, 511, 512, 1 << 16, 1 << 30, Integer.MAX_VALUE
    };
    private static final String GATES = "input a,b;wire w=a&b;latch l=w;";
    /** Of A and B: 0 fails by the third clause at 2, 1 is excluded, 2 fails by the first at 1, 3 is as it should be. */
    private static final String MIXED =
        "given a is A at 0 to 2, b is B at 0 to 2, a is 1 if B then l is 1 if A & !B at 1 to 2, w is A at 2, b is 1 if !A at 2.";

    public static void main(String[] args) {
        newObjectCounts();
        newObjectHasNoAssertion();
        newObjectHasNoCircuit();
        newObjectRefusesFirst();
        newObjectsAreTheirOwn();
        failsFromNoneToAll();
        failsRefused();
        excludedFromNoneToAll();
        excludedRefused();
        failingByRisingNumbers();
        failingNone();
        failingWithoutAssertion();
        shortfallOfTheFirstClause();
        shortfallAtTheLeastTime();
        shortfallOfEachOf512();
        shortfallNone();
        shortfallOfNoAssignment();
        shortfallRefusedFirst();
        valueOfEachKind();
        valueNoNode();
        valueNoTime();
        valueNoAssignment();
        valueExcludedAtEveryTime();
        valueWithoutAssertion();
        mattersOneOrNone();
        mattersFromAndToX();
        mattersInItAlone();
        mattersNeitherExcluded();
        mattersOfNone();
        mattersNoVariable();
        mattersWithoutAssertion();
        coneByWhateverWay();
        coneItself();
        coneNone();
        coneNeedsNoAssertion();
        countOfEach();
        countWithoutThem();
        countRefused();
        askingChangesNothing();
        Drive.finish("EdgePromiseTest");
    }

    private static TrajectoryCheck mixed() {
        return Drive.with(GATES, MIXED);
    }

    /** Promise 1: "No circuit, no assertion". */
    private static void newObjectCounts() {
        for (int what = 0; what <= 7; what++) {
            Drive.due("count " + what, new TrajectoryCheck().count(what), 0);
        }
    }

    private static void newObjectHasNoAssertion() {
        TrajectoryCheck x = new TrajectoryCheck();
        Drive.due("fails", x.fails(), REFUSED);
        Drive.due("excluded", x.excluded(), REFUSED);
        for (int n : ALL_INTS) {
            Drive.due("failing " + n, x.failing(n), NONE);
            Drive.due("shortfall of " + n, x.shortfall(n, 0), NONE);
            Drive.due("shortfall's time of " + n, x.shortfall(n, 1), NONE);
            Drive.due("value", x.value(n, 0, 0), NONE);
            Drive.due("value", x.value(0, n, 0), NONE);
            Drive.due("value", x.value(0, 0, n), NONE);
            Drive.due("matters", x.matters(n, 0, 0), NONE);
            Drive.due("matters", x.matters(0, n, 0), NONE);
            Drive.due("matters", x.matters(0, 0, n), NONE);
        }
    }

    private static void newObjectHasNoCircuit() {
        for (int n : ALL_INTS) {
            Drive.due("cone of " + n, new TrajectoryCheck().cone(n), NONE);
        }
        Drive.faultyAssertion(new TrajectoryCheck(), "given @a is 1 then a is 1.");
        Drive.due("an empty text as an assertion", new TrajectoryCheck().assertion(), 0);
        Drive.due("an empty text as a circuit", new TrajectoryCheck().circuit(), NONE);
    }

    private static void newObjectRefusesFirst() {
        TrajectoryCheck x = new TrajectoryCheck();
        for (int what : Drive.outside(2)) {
            Drive.due("shortfall of what " + what, x.shortfall(0, what), REFUSED);
        }
        for (int what : Drive.outside(8)) {
            Drive.due("count of what " + what, x.count(what), REFUSED);
        }
        for (int n : Drive.outside(1)) {
            Drive.due("end " + n, x.end(n), REFUSED);
        }
        Drive.due("feed", x.feed(0, 0, 0, 0, 0), 20);
        Drive.due("FULL is another answer", FULL, -3);
    }

    private static void newObjectsAreTheirOwn() {
        TrajectoryCheck one = mixed();
        TrajectoryCheck other = new TrajectoryCheck();
        Drive.put(one, "input z;", 0);
        Drive.due("its own circuit", other.count(0), 0);
        Drive.due("its own assertion", other.fails(), REFUSED);
        Drive.due("its own tape", other.end(1), REFUSED);
        Drive.circuit(other, "input y;", NONE);
        Drive.due("which leaves the first", one.fails(), 2);
        Drive.due("and its tape", one.circuit(), NONE);
    }

    /** Promise 6: "How many assignments fail". */
    private static void failsFromNoneToAll() {
        Drive.due("none of one", Drive.with(GATES, "given a is 1 then a is 1.").fails(), 0);
        Drive.due("one of one", Drive.with(GATES, "given a is 1 then a is 0.").fails(), 1);
        Drive.due("some", mixed().fails(), 2);
        String nine = Drive.list("V", "&", 9);
        Drive.due("none of 512", Drive.with(GATES, "given a is " + nine + " then a is " + nine + ".").fails(), 0);
        Drive.due("one of 512", Drive.with(GATES, "given a is " + nine + " then a is 0.").fails(), 1);
        Drive.due("511 of 512", Drive.with(GATES, "given a is " + nine + " then a is 1.").fails(), 511);
        Drive.due("all of 512", Drive.with(GATES, "given a is " + nine + " then a is !(" + nine + ").").fails(), 512);
    }

    /** "REFUSED without an assertion": before the first, behind a fault, behind a circuit. */
    private static void failsRefused() {
        Drive.due("new", new TrajectoryCheck().fails(), REFUSED);
        TrajectoryCheck x = Drive.with(GATES);
        Drive.due("circuit alone", x.fails(), REFUSED);
        Drive.assertion(x, "given", 5);
        Drive.due("a fault", x.fails(), REFUSED);
        Drive.assertion(x, MIXED, NONE);
        Drive.due("an assertion", x.fails(), 2);
        Drive.circuit(x, GATES, NONE);
        Drive.due("the same circuit again", x.fails(), REFUSED);
    }

    /** Promise 7: "How many are excluded". */
    private static void excludedFromNoneToAll() {
        Drive.due("none of one", Drive.with(GATES, "given a is 1 then a is 0.").excluded(), 0);
        Drive.due("one of one", Drive.with(GATES, "given a is 1, a is 0 then a is 0.").excluded(), 1);
        Drive.due("some", mixed().excluded(), 1);
        String nine = Drive.list("V", "&", 9);
        Drive.due("none of 512", Drive.with(GATES, "given a is " + nine + " then a is 1.").excluded(), 0);
        Drive.due("one of 512", Drive.with(GATES, "given a is " + nine + ", a is 0 then a is 1.").excluded(), 1);
        Drive.due("511 of 512", Drive.with(GATES, "given a is " + nine + ", a is 1 then a is 1.").excluded(), 511);
        Drive.due("all of 512", Drive.with(GATES, "given a is " + nine + ", b is 1, b is 0 then a is 1.").excluded(), 512);
    }

    private static void excludedRefused() {
        Drive.due("new", new TrajectoryCheck().excluded(), REFUSED);
        TrajectoryCheck x = Drive.with(GATES);
        Drive.due("circuit alone", x.excluded(), REFUSED);
        Drive.assertion(x, "given", 5);
        Drive.due("a fault", x.excluded(), REFUSED);
        Drive.assertion(x, MIXED, NONE);
        Drive.due("an assertion", x.excluded(), 1);
        Drive.circuit(x, GATES, NONE);
        Drive.due("the same circuit again", x.excluded(), REFUSED);
    }

    /** Promise 8: "the k-th assignment that fails, from 0, by rising numbers". */
    private static void failingByRisingNumbers() {
        TrajectoryCheck x = mixed();
        Drive.due("the first", x.failing(0), 0);
        Drive.due("the second", x.failing(1), 2);
        // V1 0 are 256 numbers, in the lower halves of the two halves.
        x = Drive.with(GATES, "given a is V0|V1|V2|V3|V4|V5|V6|V7|V8, b is V1 then b is 1.");
        for (int k = 0; k < 256; k++) {
            Drive.due("failing " + k, x.failing(k), k < 128 ? k : k + 128);
        }
        Drive.due("none behind them", x.failing(256), NONE);
        x = Drive.with(GATES, "given a is " + Drive.list("V", "&", 9) + " then a is 0.");
        Drive.due("the greatest number", x.failing(0), 511);
    }

    /** "NONE if there is none": k from their number up, and below 0. */
    private static void failingNone() {
        TrajectoryCheck x = mixed();
        for (int k : Drive.outside(2)) {
            Drive.due("failing " + k, x.failing(k), NONE);
        }
        x = Drive.with(GATES, "given a is A then a is A.");
        for (int k : Drive.outside(0)) {
            Drive.due("failing " + k + " of none", x.failing(k), NONE);
        }
        x = Drive.with(GATES, "given a is " + Drive.list("V", "&", 9) + " then b is 1.");
        for (int k : Drive.outside(512)) {
            Drive.due("failing " + k + " of all", x.failing(k), NONE);
        }
    }

    /** "or no assertion". */
    private static void failingWithoutAssertion() {
        TrajectoryCheck x = mixed();
        Drive.circuit(x, GATES, NONE);
        for (int k : ALL_INTS) {
            Drive.due("failing " + k, x.failing(k), NONE);
        }
    }

    private static void shortfallIs(TrajectoryCheck x, int assignment, int clause, int time) {
        Drive.due("the clause of " + assignment, x.shortfall(assignment, 0), clause);
        Drive.due("the time of " + assignment, x.shortfall(assignment, 1), time);
    }

    /** Promise 9: "the first clause behind then, by their order, that says another value at some time". */
    private static void shortfallOfTheFirstClause() {
        TrajectoryCheck x = mixed();
        shortfallIs(x, 0, 2, 2);
        shortfallIs(x, 2, 0, 1);
        // The first by its order, though another one falls short at an earlier time.
        x = Drive.with(GATES, "given a is 1 at 0 to 4 then a is 1 at 4, a is 0 at 3, a is 0 at 1, a is 0 at 0.");
        shortfallIs(x, 0, 1, 3);
        x = Drive.with(GATES, "given a is 1 at 0 to 4 then a is 0 at 4, a is 0 at 3.");
        shortfallIs(x, 0, 0, 4);
    }

    /** "the least such time", of that clause. */
    private static void shortfallAtTheLeastTime() {
        String given = "given a is 1 at 0 to 3, a is 0 at 4 to 7, a is 1 at 8 to 11 then ";
        shortfallIs(Drive.with(GATES, given + "a is 1 at 0 to 11."), 0, 0, 4);
        shortfallIs(Drive.with(GATES, given + "a is 0 at 4 to 11."), 0, 0, 8);
        shortfallIs(Drive.with(GATES, given + "a is 0 at 0 to 11."), 0, 0, 0);
        shortfallIs(Drive.with(GATES, given + "a is 1 at 8 to 11, a is 0 at 11."), 0, 1, 11);
        shortfallIs(Drive.with(GATES, given + "b is 1 at 7 to 9."), 0, 0, 7);
    }

    /** Of 512 assignments each has its own: which clause falls short is told by V0 and V8. */
    private static void shortfallOfEachOf512() {
        String others = "(" + Drive.list("V", "|", 9) + "|1)";
        TrajectoryCheck x = Drive.with(GATES, "given a is " + others
            + " at 0 to 2 then a is !V0 if V0 at 0 to 2, a is 0 if V8 at 2, a is V1 if !V8 at 1.");
        for (int number = 0; number < 512; number += 3) {
            boolean first = number >= 256;
            boolean second = number % 2 == 1;
            boolean third = !second && number / 128 % 2 == 0;
            int clause = first ? 0 : second ? 1 : third ? 2 : NONE;
            shortfallIs(x, number, clause, clause == NONE ? NONE : first ? 0 : second ? 2 : 1);
        }
    }

    /** "NONE if it does not fail": as it should be, or excluded. */
    private static void shortfallNone() {
        shortfallIs(mixed(), 3, NONE, NONE);
        shortfallIs(mixed(), 1, NONE, NONE);
        shortfallIs(Drive.with(GATES, "given a is 1 then a is 1."), 0, NONE, NONE);
        shortfallIs(Drive.with(GATES, "given a is 1, a is 0 then b is 1."), 0, NONE, NONE);
    }

    /** "there is none, or no assertion". */
    private static void shortfallOfNoAssignment() {
        for (int assignment : Drive.outside(4)) {
            shortfallIs(mixed(), assignment, NONE, NONE);
        }
        TrajectoryCheck x = Drive.with(GATES, "given a is " + Drive.list("V", "&", 9) + " then b is 1.");
        shortfallIs(x, 0, 0, 0);
        shortfallIs(x, 511, 0, 0);
        for (int assignment : Drive.outside(512)) {
            shortfallIs(x, assignment, NONE, NONE);
        }
        Drive.circuit(x, GATES, NONE);
        for (int assignment : ALL_INTS) {
            shortfallIs(x, assignment, NONE, NONE);
        }
    }

    /** "REFUSED for another what, first": before all that answers NONE. */
    private static void shortfallRefusedFirst() {
        for (int what : Drive.outside(2)) {
            TrajectoryCheck x = mixed();
            Drive.due("one that fails, what " + what, x.shortfall(0, what), REFUSED);
            Drive.due("one that does not, what " + what, x.shortfall(3, what), REFUSED);
            Drive.due("an excluded one, what " + what, x.shortfall(1, what), REFUSED);
            Drive.due("none, what " + what, x.shortfall(4, what), REFUSED);
            Drive.due("one below 0, what " + what, x.shortfall(-1, what), REFUSED);
            Drive.due("no assertion, what " + what, Drive.with(GATES).shortfall(0, what), REFUSED);
            Drive.due("no circuit, what " + what, new TrajectoryCheck().shortfall(0, what), REFUSED);
        }
    }

    /** Promise 10: "0, 1, 2 for X; 3 if it is excluded". */
    private static void valueOfEachKind() {
        TrajectoryCheck x = mixed();
        Drive.due("0", x.value(0, 0, 0), 0);
        Drive.due("1", x.value(0, 0, 2), 1);
        Drive.due("X", x.value(3, 0, 2), X);
        Drive.due("3", x.value(0, 0, 1), OUT);
        Drive.due("the last node, time and assignment", x.value(3, 2, 3), 1);
    }

    /** "NONE if there is no such node". */
    private static void valueNoNode() {
        TrajectoryCheck x = mixed();
        for (int node : Drive.outside(4)) {
            Drive.due("node " + node, x.value(node, 0, 0), NONE);
            Drive.due("node " + node + " of an excluded one", x.value(node, 0, 1), NONE);
        }
        x = Drive.with("input " + Drive.list("n", ",", 40) + ";", "given n39 is A then n0 is 1.");
        Drive.due("the fortieth", x.value(39, 0, 1), 1);
        for (int node : Drive.outside(40)) {
            Drive.due("node " + node, x.value(node, 0, 1), NONE);
        }
    }

    /** "time": "0 to the last". */
    private static void valueNoTime() {
        TrajectoryCheck x = mixed();
        for (int time : Drive.outside(3)) {
            Drive.due("time " + time, x.value(0, time, 0), NONE);
            Drive.due("time " + time + " of an excluded one", x.value(0, time, 1), NONE);
        }
        x = Drive.with(GATES, "given a is A at 0 to 11 then a is 1.");
        Drive.due("time 11", x.value(0, 11, 1), 1);
        for (int time : Drive.outside(12)) {
            Drive.due("time " + time, x.value(0, time, 1), NONE);
        }
    }

    /** "or assignment". */
    private static void valueNoAssignment() {
        TrajectoryCheck x = mixed();
        for (int assignment : Drive.outside(4)) {
            Drive.due("assignment " + assignment, x.value(0, 0, assignment), NONE);
        }
        x = Drive.with(GATES, "given a is " + Drive.list("V", "&", 9) + " then a is 1.");
        Drive.due("assignment 510", x.value(0, 0, 510), 0);
        Drive.due("assignment 511", x.value(0, 0, 511), 1);
        for (int assignment : Drive.outside(512)) {
            Drive.due("assignment " + assignment, x.value(0, 0, assignment), NONE);
        }
    }

    /** "3 (at every time)", of every node, before and behind what excludes it. */
    private static void valueExcludedAtEveryTime() {
        TrajectoryCheck x = Drive.with(GATES, "given a is A at 5, a is 1 at 5 then a is 1 if 0 at 11.");
        for (int node = 0; node < 4; node++) {
            for (int time = 0; time <= 11; time++) {
                Drive.due("node " + node + " at " + time, x.value(node, time, 0), OUT);
                Drive.due("of the other one", x.value(node, time, 1), node == 0 && time == 5 ? 1 : X);
            }
        }
    }

    /** "or no assertion". */
    private static void valueWithoutAssertion() {
        TrajectoryCheck x = mixed();
        Drive.due("with one", x.value(0, 0, 0), 0);
        Drive.circuit(x, GATES, NONE);
        Drive.due("behind a circuit", x.value(0, 0, 0), NONE);
        Drive.assertion(x, "given ?", 6);
        Drive.due("behind a fault", x.value(0, 0, 0), NONE);
    }

    private static void mattersAre(TrajectoryCheck x, int node, int time, String due) {
        for (int v = 0; v < due.length(); v++) {
            Drive.due("variable " + v + " for " + node + " at " + time, x.matters(node, time, v), due.charAt(v) - '0');
        }
    }

    /** Promise 11: "Whether variable v ever matters for a node at a time .. 1, else 0". */
    private static void mattersOneOrNone() {
        TrajectoryCheck x = Drive.with(GATES, "given a is A at 0 to 1, b is B at 0 to 1 then l is C at 2.");
        mattersAre(x, 0, 0, "100");
        mattersAre(x, 1, 0, "010");
        mattersAre(x, 2, 1, "110");
        mattersAre(x, 3, 0, "000");
        mattersAre(x, 3, 2, "110");
        mattersAre(x, 0, 2, "000");
        // One pair of 256 is enough, for the first variable and the last.
        x = Drive.with(GATES, "given a is " + Drive.list("V", "&", 9) + ", b is " + Drive.list("V", "|", 9) + " then a is 1.");
        mattersAre(x, 0, 0, "111111111");
        mattersAre(x, 1, 0, "111111111");
        mattersAre(x, 2, 0, "111111111");
        mattersAre(x, 3, 0, "000000000");
    }

    /** "with different values of the node": X is one of them. */
    private static void mattersFromAndToX() {
        TrajectoryCheck x = Drive.with(GATES, "given a is 0 if A, b is 1 if B then a is 0 if A.");
        mattersAre(x, 0, 0, "10");
        mattersAre(x, 1, 0, "01");
        mattersAre(x, 2, 0, "10");
    }

    /** "two assignments that differ in it alone". */
    private static void mattersInItAlone() {
        TrajectoryCheck x = Drive.with(GATES, "given a is A, a is B, b is 1 if A then a is A.");
        mattersAre(x, 0, 0, "00");
        mattersAre(x, 1, 0, "00");
    }

    /** "neither of them excluded": whichever of the two it is. */
    private static void mattersNeitherExcluded() {
        TrajectoryCheck x = Drive.with(GATES, "given a is A, a is 1 then b is 1.");
        mattersAre(x, 0, 0, "0");
        x = Drive.with(GATES, "given a is A, a is 0 then b is 1.");
        mattersAre(x, 0, 0, "0");
        x = Drive.with(GATES, "given a is A, b is 1 at 1, b is A at 1 then b is 1.");
        mattersAre(x, 0, 0, "0");
        x = Drive.with(GATES, "given a is A, a is 1 if B then b is 1.");
        mattersAre(x, 0, 0, "10");
        x = Drive.with(GATES, "given a is A, a is 0, a is 1 then b is 1.");
        mattersAre(x, 0, 0, "0");
    }

    /** "NONE as for value". */
    private static void mattersOfNone() {
        TrajectoryCheck x = mixed();
        Drive.due("the last node, time and variable", x.matters(3, 2, 1), 1);
        for (int node : Drive.outside(4)) {
            Drive.due("node " + node, x.matters(node, 0, 0), NONE);
        }
        for (int time : Drive.outside(3)) {
            Drive.due("time " + time, x.matters(0, time, 0), NONE);
        }
        x = Drive.with("input " + Drive.list("n", ",", 40) + ";", "given n39 is A at 11 then n0 is 1.");
        Drive.due("the fortieth at 11", x.matters(39, 11, 0), 1);
        Drive.due("the forty-first", x.matters(40, 11, 0), NONE);
        Drive.due("at 12", x.matters(39, 12, 0), NONE);
    }

    /** "and if there is no such variable". */
    private static void mattersNoVariable() {
        TrajectoryCheck x = mixed();
        for (int v : Drive.outside(2)) {
            Drive.due("variable " + v, x.matters(0, 0, v), NONE);
        }
        x = Drive.with(GATES, "given a is 1 then b is 1.");
        for (int v : Drive.outside(0)) {
            Drive.due("variable " + v + " of none", x.matters(0, 0, v), NONE);
        }
        x = Drive.with(GATES, "given a is " + Drive.list("V", "&", 9) + " then b is 1.");
        Drive.due("variable 8", x.matters(0, 0, 8), 1);
        for (int v : Drive.outside(9)) {
            Drive.due("variable " + v + " of nine", x.matters(0, 0, v), NONE);
        }
    }

    private static void mattersWithoutAssertion() {
        TrajectoryCheck x = mixed();
        Drive.due("with one", x.matters(0, 0, 0), 1);
        Drive.circuit(x, GATES, NONE);
        Drive.due("behind a circuit", x.matters(0, 0, 0), NONE);
        Drive.assertion(x, "given ?", 6);
        Drive.due("behind a fault", x.matters(0, 0, 0), NONE);
    }

    /** Promise 12: "How many nodes a node depends on, by whatever way, latches too". */
    private static void coneByWhateverWay() {
        TrajectoryCheck x = Drive.with("input a,b;wire w=a;latch l=w;wire v=l&l&!(b|0);latch m=v;wire k=1;");
        int[] due = {0, 0, 1, 2, 4, 5, 0};
        for (int node = 0; node < due.length; node++) {
            Drive.due("cone of " + node, x.cone(node), due[node]);
        }
        // One that is not needed for its value counts, too.
        Drive.due("a & 0", Drive.with("input a;wire w=a&0;").cone(1), 1);
    }

    /** "itself only if it does". */
    private static void coneItself() {
        Drive.due("an input", Drive.with("input a;").cone(0), 0);
        Drive.due("a wire", Drive.with("wire a=1;").cone(0), 0);
        Drive.due("a latch of another", Drive.with("latch a=b;input b;").cone(0), 1);
        Drive.due("a latch of itself", Drive.with("latch a=a;").cone(0), 1);
        TrajectoryCheck x = Drive.with("wire w=l;latch l=w;latch m=l;");
        Drive.due("a wire by a latch", x.cone(0), 2);
        Drive.due("a latch by a wire", x.cone(1), 2);
        Drive.due("one that hangs on them", x.cone(2), 2);
        StringBuilder ring = new StringBuilder();
        for (int i = 0; i < 40; i++) {
            ring.append("latch n").append(i).append("=n").append((i + 1) % 40).append(";");
        }
        x = Drive.with(ring.toString());
        Drive.due("all forty, from the first", x.cone(0), 40);
        Drive.due("all forty, from the last", x.cone(39), 40);
    }

    /** "NONE if there is none". */
    private static void coneNone() {
        TrajectoryCheck x = Drive.with(GATES);
        for (int node : Drive.outside(4)) {
            Drive.due("cone of " + node, x.cone(node), NONE);
        }
        x = Drive.with("input " + Drive.list("n", ",", 39) + ";wire w=n0&n38;");
        Drive.due("the fortieth", x.cone(39), 2);
        for (int node : Drive.outside(40)) {
            Drive.due("cone of " + node, x.cone(node), NONE);
        }
        x = Drive.with("");
        for (int node : Drive.outside(0)) {
            Drive.due("cone of " + node + " of none", x.cone(node), NONE);
        }
    }

    private static void coneNeedsNoAssertion() {
        Drive.due("without", Drive.with(GATES).cone(3), 3);
        Drive.due("with", mixed().cone(3), 3);
    }

    private static void countsAre(TrajectoryCheck x, int... due) {
        for (int what = 0; what < due.length; what++) {
            Drive.due("count " + what, x.count(what), due[what]);
        }
    }

    /** Promise 13: "What 0: nodes, 1: inputs, .. 7: the last time". */
    private static void countOfEach() {
        countsAre(mixed(), 4, 2, 1, 1, 2, 3, 3, 2);
        String clauses = Drive.repeat("a is 1", ",", 24);
        TrajectoryCheck x = Drive.with("input a," + Drive.list("n", ",", 39) + ";",
            "given " + clauses + " then " + clauses.substring(0, clauses.length() - 1) + Drive.list("V", "&", 9) + " at 11.");
        countsAre(x, 40, 40, 0, 0, 9, 24, 24, 11);
        countsAre(Drive.with("wire a=0;latch b=0;wire c=0;latch d=0;latch e=0;"), 5, 0, 2, 3, 0, 0, 0, 0);
    }

    /** "0 without them". */
    private static void countWithoutThem() {
        countsAre(new TrajectoryCheck(), 0, 0, 0, 0, 0, 0, 0, 0);
        countsAre(Drive.with(""), 0, 0, 0, 0, 0, 0, 0, 0);
        countsAre(Drive.with(GATES), 4, 2, 1, 1, 0, 0, 0, 0);
        countsAre(Drive.with(GATES, "given a is 1 then a is 1."), 4, 2, 1, 1, 0, 1, 1, 0);
        TrajectoryCheck x = mixed();
        Drive.circuit(x, "latch l=0;", NONE);
        countsAre(x, 1, 0, 0, 1, 0, 0, 0, 0);
    }

    /** "REFUSED for others", whatever there is. */
    private static void countRefused() {
        TrajectoryCheck[] all = {new TrajectoryCheck(), Drive.with(GATES), mixed()};
        for (TrajectoryCheck x : all) {
            for (int what : Drive.outside(8)) {
                Drive.due("count " + what, x.count(what), REFUSED);
            }
        }
    }

    /** What is asked, in whatever order, and what is refused leave all other answers as they are. */
    private static void askingChangesNothing() {
        TrajectoryCheck x = mixed();
        for (int round = 0; round < 3; round++) {
            for (int n : ALL_INTS) {
                x.failing(n);
                x.shortfall(n, n);
                x.shortfall(n, 1);
                x.value(n, n, n);
                x.matters(n, n, n);
                x.cone(n);
                x.count(n);
            }
            shortfallIs(x, 0, 2, 2);
            shortfallIs(x, 2, 0, 1);
            Drive.due("fails", x.fails(), 2);
            Drive.due("excluded", x.excluded(), 1);
            Drive.due("value", x.value(3, 2, 3), 1);
            Drive.due("matters", x.matters(3, 2, 1), 1);
            countsAre(x, 4, 2, 1, 1, 2, 3, 3, 2);
        }
    }
}
