/** Promises 6 to 9: fails, excluded, failing and shortfall. */
public final class OutcomeTest {
    private static final int NONE = TrajectoryCheck.NONE, REFUSED = TrajectoryCheck.REFUSED;
    private static final String GATES = "input x, y; wire z = x & y; wire w = z | !z; wire u = x ^ y; latch l = u;";

    public static void main(String[] args) {
        fails();
        excluded();
        failing();
        shortfall();
        withoutAssertion();
        Drive.finish("OutcomeTest");
    }

    private static void outcome(String assertion, int fails, int excluded) {
        TrajectoryCheck x = Drive.with(GATES, assertion);
        Drive.due("fails of " + assertion, x.fails(), fails);
        Drive.due("excluded of " + assertion, x.excluded(), excluded);
    }

    private static void fails() {
        outcome("given x is 1 then x is 1.", 0, 0);
        outcome("given x is 1 then x is 0.", 1, 0);
        outcome("given x is 0 then z is 0.", 0, 0);
        outcome("given x is 1 then z is 1.", 1, 0);
        outcome("given x is 1 then z is 0.", 1, 0);
        outcome("given x is A then x is A.", 0, 0);
        outcome("given x is A then z is A.", 1, 0);
        outcome("given x is A, y is B then z is A & B, u is A ^ B, w is 1.", 0, 0);
        outcome("given x is A, y is B then z is A | B.", 2, 0);
        outcome("given x is A, y is B then z is A | B, u is A.", 3, 0);
        outcome("given x is A, y is B then z is A | B if C.", 2, 0);
        outcome("given x is A then y is B if 0.", 0, 0);
        outcome("given x is A then y is B if C.", 4, 0);
        outcome("given x is A, y is B then l is A ^ B at 1.", 0, 0);
        outcome("given x is A, y is B then l is A ^ B at 0 to 1.", 4, 0);
        outcome("given x is A at 1, y is B at 1 to 2 then l is A ^ B at 2.", 0, 0);
        outcome("given x is A if G then x is A if G.", 0, 0);
        outcome("given x is A if G then x is A.", 2, 0);
        outcome("given x is A&B&C&D&E&F&G&H&I then x is 0.", 1, 0);
        outcome("given x is A|B|C|D|E|F|G|H|I then x is A.", 255, 0);
        outcome("given x is A^B^C^D^E^F then x is A^B^C^D^E.", 32, 0);
        outcome("given x is A^B^C^D^E^F^G then x is !(A^B^C^D^E^F^G).", 128, 0);
    }

    private static void excluded() {
        outcome("given x is A, x is B then x is A.", 0, 2);
        outcome("given x is A, x is B then x is !A.", 2, 2);
        outcome("given x is 1, x is 0 then y is 1.", 0, 1);
        outcome("given x is 1, x is 1 then y is 1.", 1, 0);
        outcome("given x is 1 at 0, x is 0 at 1 then x is 1.", 0, 0);
        outcome("given x is A, y is B, z is C then z is C.", 0, 4);
        outcome("given x is A, z is 1 then w is 1.", 0, 1);
        outcome("given z is 1 then w is 1.", 0, 0);
        outcome("given w is 0 then w is 0.", 0, 0);
        outcome("given z is A, w is 0 then w is 0.", 0, 2);
        outcome("given x is A, y is B, l is C at 1 then z is 1.", 3, 4);
        outcome("given x is A, y is B, l is C at 0 then z is 1.", 6, 0);
        outcome("given x is A if G, x is !A if H then z is 1.", 6, 2);
        outcome("given x is 1, x is 0 if 0 then x is 1.", 0, 0);
        outcome("given x is A&B&C&D&E&F&G&H&I, x is 0 then y is 1 if A.", 255, 1);
        // What is given late excludes, and at a time that no clause behind then tells of, too.
        outcome("given x is A, x is 0 at 11, x is 1 if A at 11 then x is A.", 0, 1);
    }

    private static void failing() {
        TrajectoryCheck x = Drive.with(GATES, "given x is A, y is B, y is 1 if A & C then z is C.");
        // Excluded: A 1, B 0, C 1. Fails: A 0, C 1 (both B), A 1, B 1, C 0.
        Drive.due("fails", x.fails(), 3);
        Drive.due("excluded", x.excluded(), 1);
        Drive.due("failing 0", x.failing(0), 1);
        Drive.due("failing 1", x.failing(1), 3);
        Drive.due("failing 2", x.failing(2), 6);
        Drive.due("failing 3", x.failing(3), NONE);
        Drive.due("failing -1", x.failing(-1), NONE);
        Drive.due("failing, the least", x.failing(Integer.MIN_VALUE), NONE);
        Drive.due("failing, the greatest", x.failing(Integer.MAX_VALUE), NONE);
        Drive.assertion(x, "given x is 1 then x is 0.", NONE);
        Drive.due("without variables", x.failing(0), 0);
        Drive.due("only one", x.failing(1), NONE);
        Drive.assertion(x, "given x is A, y is B|C|D|E|F|G|H|I then x is 0.", NONE);
        for (int k = 0; k < 256; k++) {
            Drive.due("variable 0 is the highest bit", x.failing(k), 256 + k);
        }
        x = Drive.with(GATES, "given y is A|B|C|D|E|F|G|H, x is I then x is 0.");
        for (int k = 0; k < 256; k++) {
            Drive.due("variable 8 is the lowest", x.failing(k), 2 * k + 1);
        }
    }

    private static void shortfall() {
        TrajectoryCheck x = Drive.with(GATES,
            "given x is A at 0 to 4, y is B at 2 to 3 then x is A at 0 to 4, l is A ^ B if B at 3 to 5, x is 0 at 1 to 2, y is B at 3 to 4.");
        // l is known at 3 and 4 alone: with B it falls short at 5; without B, with A, x does at 1; else y at 4.
        shortfallIs(x, 0, 3, 4);
        shortfallIs(x, 1, 1, 5);
        shortfallIs(x, 2, 2, 1);
        shortfallIs(x, 3, 1, 5);
        shortfallIs(x, 4, NONE, NONE);
        shortfallIs(x, -1, NONE, NONE);
        shortfallIs(x, 512, NONE, NONE);
        shortfallIs(x, Integer.MIN_VALUE, NONE, NONE);
        shortfallIs(x, Integer.MAX_VALUE, NONE, NONE);
        Drive.due("what 2", x.shortfall(0, 2), REFUSED);
        Drive.due("what -1", x.shortfall(0, -1), REFUSED);
        Drive.due("what 2 of no assignment", x.shortfall(9, 2), REFUSED);
        Drive.assertion(x, "given x is A, x is 1 then x is B.", NONE);
        shortfallIs(x, 0, NONE, NONE);
        shortfallIs(x, 1, NONE, NONE);
        shortfallIs(x, 2, 0, 0);
        shortfallIs(x, 3, NONE, NONE);
        Drive.assertion(x, "given x is A|B|C|D|E|F|G|H|I at 1 then x is 1 if 0, x is A if I at 1.", NONE);
        shortfallIs(x, 0, NONE, NONE);
        shortfallIs(x, 255, 1, 1);
        shortfallIs(x, 254, NONE, NONE);
        shortfallIs(x, 511, NONE, NONE);
    }

    private static void shortfallIs(TrajectoryCheck x, int assignment, int clause, int time) {
        Drive.due("the clause of " + assignment, x.shortfall(assignment, 0), clause);
        Drive.due("the time of " + assignment, x.shortfall(assignment, 1), time);
    }

    private static void withoutAssertion() {
        TrajectoryCheck x = Drive.with(GATES);
        Drive.due("fails", x.fails(), REFUSED);
        Drive.due("excluded", x.excluded(), REFUSED);
        Drive.due("failing", x.failing(0), NONE);
        shortfallIs(x, 0, NONE, NONE);
        Drive.due("shortfall of another what", x.shortfall(0, 3), REFUSED);
    }
}
