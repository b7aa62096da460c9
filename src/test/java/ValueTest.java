/** Promises 10 and 11: value and matters. */
public final class ValueTest {
    private static final int NONE = TrajectoryCheck.NONE, X = 2, OUT = 3;

    public static void main(String[] args) {
        tables();
        binding();
        overTime();
        givenValues();
        valueEdges();
        matters();
        mattersAndExcluded();
        mattersEdges();
        Drive.finish("ValueTest");
    }

    /** All nine pairs of 0, 1 and X: a is A if B, c is C if D. */
    private static void tables() {
        TrajectoryCheck x = Drive.with(
            "input a, c; wire n = !a; wire and = a & c; wire or = a | c; wire xor = a ^ c; wire self = a ^ a; wire zero = 0; wire one = 1;",
            "given a is A if B, c is C if D then a is A if B.");
        for (int number = 0; number < 16; number++) {
            int a = (number & 4) == 0 ? X : number >> 3;
            int c = (number & 1) == 0 ? X : number >> 1 & 1;
            String under = " under " + number;
            Drive.due("a" + under, x.value(0, 0, number), a);
            Drive.due("c" + under, x.value(1, 0, number), c);
            Drive.due("not" + under, x.value(2, 0, number), a == X ? X : 1 - a);
            Drive.due("and" + under, x.value(3, 0, number), a == 0 || c == 0 ? 0 : a == 1 && c == 1 ? 1 : X);
            Drive.due("or" + under, x.value(4, 0, number), a == 1 || c == 1 ? 1 : a == 0 && c == 0 ? 0 : X);
            Drive.due("xor" + under, x.value(5, 0, number), a == X || c == X ? X : a ^ c);
            Drive.due("a ^ a" + under, x.value(6, 0, number), a == X ? X : 0);
            Drive.due("0" + under, x.value(7, 0, number), 0);
            Drive.due("1" + under, x.value(8, 0, number), 1);
        }
    }

    private static void binding() {
        TrajectoryCheck x = Drive.with(
            "input a, b, c; wire p = a | b ^ c; wire q = a ^ b & c; wire r = a | b & c; wire s = !a & b; wire t = (a | b) & c; wire u = !(a & b) ^ c;",
            "given a is A, b is B, c is C then a is A|B^C, a is A^B&C, a is A|B&C, a is !A&B, a is (A|B)&C, a is !(A&B)^C.");
        int failing = 0;
        for (int number = 0; number < 8; number++) {
            int a = number >> 2;
            int b = number >> 1 & 1;
            int c = number & 1;
            int[] due = {a | (b ^ c), a ^ (b & c), a | (b & c), (1 - a) & b, (a | b) & c, (1 - (a & b)) ^ c};
            int first = NONE;
            for (int i = 0; i < due.length; i++) {
                Drive.due("expression " + i + " under " + number, x.value(3 + i, 0, number), due[i]);
                first = first == NONE && due[i] != a ? i : first;
            }
            failing += first == NONE ? 0 : 1;
            Drive.due("the same of variables under " + number, x.shortfall(number, 0), first);
        }
        Drive.due("fails", x.fails(), failing);
    }

    private static void overTime() {
        TrajectoryCheck x = Drive.with("latch q2 = q1; wire w = q2 & d; latch q1 = d; input d; latch t = !t;",
            "given d is A at 1, d is 1 at 3, t is 0 at 2 then d is A at 1 to 5.");
        row(x, 3, 1, X, 1, X, 1, X, X);
        row(x, 2, 1, X, X, 1, X, 1, X);
        row(x, 0, 1, X, X, X, 1, X, 1);
        row(x, 1, 1, X, X, X, 1, X, X);
        row(x, 3, 0, X, 0, X, 1, X, X);
        row(x, 0, 0, X, X, X, 0, X, 1);
        row(x, 1, 0, X, 0, X, 0, X, X);
        row(x, 4, 0, X, X, 0, 1, 0, 1);
    }

    private static void row(TrajectoryCheck x, int node, int assignment, int... values) {
        for (int time = 0; time < values.length; time++) {
            Drive.due("node " + node + " at " + time, x.value(node, time, assignment), values[time]);
        }
        Drive.due("behind the last", x.value(node, values.length, assignment), NONE);
    }

    private static void givenValues() {
        TrajectoryCheck x = Drive.with("wire c = b; wire b = a & e; input a, e; latch l = c;",
            "given b is 1 if A, l is 0 if B at 1, e is 0 at 1 then a is 1 if 0 at 2.");
        row(x, 1, 0, X, 0, X);
        row(x, 1, 2, 1, 0, X);
        row(x, 0, 2, 1, 0, X);
        row(x, 4, 2, X, 1, 0);
        row(x, 4, 1, X, 0, 0);
        row(x, 2, 2, X, X, X);
        row(x, 4, 3, OUT, OUT, OUT);
        row(x, 2, 3, OUT, OUT, OUT);
    }

    private static void valueEdges() {
        TrajectoryCheck x = Drive.with("input a; latch b = a;", "given a is A at 1 then b is A at 2.");
        Drive.due("value", x.value(1, 2, 1), 1);
        Drive.due("node -1", x.value(-1, 0, 0), NONE);
        Drive.due("node 2", x.value(2, 0, 0), NONE);
        Drive.due("time -1", x.value(0, -1, 0), NONE);
        Drive.due("time 3", x.value(0, 3, 0), NONE);
        Drive.due("assignment -1", x.value(0, 0, -1), NONE);
        Drive.due("assignment 2", x.value(0, 0, 2), NONE);
        Drive.due("all far off", x.value(Integer.MAX_VALUE, Integer.MIN_VALUE, Integer.MAX_VALUE), NONE);
        Drive.assertion(x, "given a is 1 then a is 1.", NONE);
        Drive.due("no variables: assignment 0", x.value(0, 0, 0), 1);
        Drive.due("no variables: assignment 1", x.value(0, 0, 1), NONE);
        Drive.due("the last time is 0 then", x.value(0, 1, 0), NONE);
        Drive.circuit(x, "input a;", NONE);
        Drive.due("no assertion", x.value(0, 0, 0), NONE);
    }

    private static void matters() {
        TrajectoryCheck x = Drive.with("input a, b; wire c = a & b; latch d = c;",
            "given a is A, b is B if C, b is D at 1 then c is 0 if E at 2.");
        mattersAre(x, 0, 0, "10000");
        mattersAre(x, 1, 0, "01100");
        mattersAre(x, 2, 0, "11100");
        mattersAre(x, 3, 0, "00000");
        mattersAre(x, 3, 1, "11100");
        mattersAre(x, 1, 1, "00010");
        mattersAre(x, 2, 1, "00010");
        mattersAre(x, 3, 2, "00010");
        mattersAre(x, 0, 2, "00000");
        nine();
    }

    private static void mattersAre(TrajectoryCheck x, int node, int time, String due) {
        for (int v = 0; v < due.length(); v++) {
            Drive.due("variable " + v + " for " + node + " at " + time, x.matters(node, time, v), due.charAt(v) - '0');
        }
    }

    private static void nine() {
        TrajectoryCheck x = Drive.with("input a; input b;", "given a is A&B&C&D&E&F&G&H&I, b is A^C^E^G^I then a is 1.");
        mattersAre(x, 0, 0, "111111111");
        mattersAre(x, 1, 0, "101010101");
    }

    private static void mattersAndExcluded() {
        TrajectoryCheck x = Drive.with("input a, b;", "given a is A, a is B, b is A, b is C if D then a is A.");
        // A and B must be alike, so neither can change alone; C can where A is C.
        mattersAre(x, 0, 0, "0000");
        mattersAre(x, 1, 0, "0000");
        Drive.assertion(x, "given a is A, b is 1 if A, b is B if !A then a is A.", NONE);
        mattersAre(x, 0, 0, "10");
        mattersAre(x, 1, 0, "11");
        Drive.assertion(x, "given a is A, b is B, b is 1 if A, b is 1 if !A then a is A.", NONE);
        mattersAre(x, 0, 0, "10");
        mattersAre(x, 1, 0, "00");
    }

    private static void mattersEdges() {
        TrajectoryCheck x = Drive.with("input a;", "given a is A then a is A at 1.");
        Drive.due("matters", x.matters(0, 0, 0), 1);
        Drive.due("node -1", x.matters(-1, 0, 0), NONE);
        Drive.due("node 1", x.matters(1, 0, 0), NONE);
        Drive.due("time -1", x.matters(0, -1, 0), NONE);
        Drive.due("time 2", x.matters(0, 2, 0), NONE);
        Drive.due("variable -1", x.matters(0, 0, -1), NONE);
        Drive.due("variable 1", x.matters(0, 0, 1), NONE);
        Drive.due("variable, the least", x.matters(0, 0, Integer.MIN_VALUE), NONE);
        Drive.assertion(x, "given a is 1 then a is 1.", NONE);
        Drive.due("no variables", x.matters(0, 0, 0), NONE);
        Drive.circuit(x, "input a;", NONE);
        Drive.due("no assertion", x.matters(0, 0, 0), NONE);
    }
}
