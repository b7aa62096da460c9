/** Promise 5: assertion, with the grammar and the faults of assertions. */
public final class AssertionTest {
    private static final int NONE = TrajectoryCheck.NONE, REFUSED = TrajectoryCheck.REFUSED;
    private static final String AB = "input a; wire b = !a;";

    public static void main(String[] args) {
        good();
        tokens();
        grammar();
        missing();
        times();
        depth();
        manyClauses();
        manyVariables();
        manyAtoms();
        whatStays();
        Drive.finish("AssertionTest");
    }

    private static TrajectoryCheck good(String text) {
        return Drive.with(AB, text);
    }

    private static void bad(String marked) {
        Drive.faultyAssertion(Drive.with(AB), marked);
    }

    private static void good() {
        good("given a is 1 then b is 0.");
        good("given a is 1 then b is 0.  \n ");
        good("\ngiven\na\nis\nA\nif\nB\nat\n1\nto\n2\nthen\nb\nis\n0\n.");
        good("given a is(A)if!B at 0to 3,a is 1at 4then b is A|B^C&!D.");
        good("given a isA then b is 0.");
        good("given a is ABCD, a is A123 then b is Z9.");
        good("given a is 1 at 0 to 11 then b is 0 at 0011.");
    }

    private static void tokens() {
        bad("given a is @ABCDE then b is 0.");
        bad("given a is A@_B then b is 0.");
        bad("given a is A@b then b is 0.");
        bad("given a @is0 then b is 0.");
        bad("given a is 1 at @00001 then b is 0.");
        bad("given a is 1 at @12345 then b is 0.");
        bad("given a is @abcdefghi then b is 0.");
        bad("given a is 1 then b is 0.@?");
        bad("given a is 1 then b is 0@\u00ff.");
        bad("given @A is 1 then b is 0.");
        bad("given a is @b then b is 0.");
        bad("given a is @10 then b is 0.");
        bad("given a is @2 then b is 0.");
    }

    private static void grammar() {
        bad("@given1 a is 1 then b is 0.");
        bad("@a is 1 then b is 0.");
        bad("@input a;");
        bad("given @then b is 0.");
        bad("given @, a is 1 then b is 0.");
        bad("given a @then b is 0.");
        bad("given a @1 then b is 0.");
        bad("given a is @then b is 0.");
        bad("given a is @if A then b is 0.");
        bad("given a is 1 if @at 1 then b is 0.");
        bad("given a is 1 @to 2 then b is 0.");
        bad("given a is 1 at 1 @if A then b is 0.");
        bad("given a is 1 at @to 2 then b is 0.");
        bad("given a is 1 at 1 to @then b is 0.");
        bad("given a is 1 at 1 to 2 @to 3 then b is 0.");
        bad("given a is 1 at @A then b is 0.");
        bad("given a is 1 at 1 @2 then b is 0.");
        bad("given a is 1, @then b is 0.");
        bad("given a is 1 @a is 0 then b is 0.");
        bad("given a is 1@. then b is 0.");
        bad("given a is 1 then @. b");
        bad("given a is 1 then b is 0,@.");
        bad("given a is 1 then b is 0 @then a is 0.");
        bad("given a is 1 then b is 0@; .");
        bad("given a is 1 then b is 0. @.");
        bad("given a is 1 then b is 0. @given");
        bad("given a is (1 @then b is 0.");
        bad("given a is 1@) then b is 0.");
        bad("given a is A @B then b is 0.");
        bad("given @c is 1 then b is 0.");
        bad("given a is 1, @ab is 1 then b is 0.");
        bad("given a is 1 then @d is ?.");
    }

    private static void missing() {
        bad("@");
        bad("  \n@");
        bad("given@");
        bad("given a@");
        bad("given a is@");
        bad("given a is A &@");
        bad("given a is (A@");
        bad("given a is A@");
        bad("given a is A if @");
        bad("given a is A if A@");
        bad("given a is A at@");
        bad("given a is A at 1@");
        bad("given a is A at 1 to@");
        bad("given a is A at 1 to 2@");
        bad("given a is A,@");
        bad("given a is A then @");
        bad("given a is A then b is A@");
        bad("given a is A then b is A \n @");
    }

    private static void times() {
        bad("given a is 1 at @12 then b is 0.");
        bad("given a is 1 at @0012 then b is 0.");
        bad("given a is 1 at @9999 then b is 0.");
        bad("given a is 1 at 0 to @12 then b is 0.");
        bad("given a is 1 at 3 to @2 then b is 0.");
        bad("given a is 1 then b is 0 at 11 to @10.");
        TrajectoryCheck x = good("given a is 1 at 3 to 3 then b is 0 at 0003 to 003.");
        Drive.due("the last time", x.count(7), 3);
        x = good("given a is 1 at 5 to 10 then b is 0 at 9.");
        Drive.due("the last time", x.count(7), 10);
        x = good("given a is 1 then b is 0 at 11 to 11.");
        Drive.due("the last time", x.count(7), 11);
    }

    private static void depth() {
        good("given a is !!!!!!!!!!A then b is ((((((((((A)))))))))).");
        bad("given a is !!!!!!!!!!@!A then b is A.");
        bad("given a is 1 then b is ((((((((((@(A))))))))))).");
        bad("given a is 1 then b is 1 if !(!(!(!(!(@(A)))))).");
    }

    private static void manyClauses() {
        String all = Drive.repeat("a is 1", ", ", 24);
        TrajectoryCheck x = good("given " + all + " then " + all + ".");
        Drive.due("clauses given", x.count(5), 24);
        Drive.due("clauses behind then", x.count(6), 24);
        bad("given " + all + ", @a is 1 then " + all + ".");
        bad("given " + all + " then " + all + ", @a is 1.");
        bad("given " + all + ", @then a is 1.");
        bad("given " + all + ",@");
        bad("given " + all + " then " + all + ",@.");
        bad("given " + all + " then " + all + "@");
    }

    private static void manyVariables() {
        TrajectoryCheck x = good("given a is A1&A2&A3&A4 if A5 then b is A6 if A7^A8^A9, a is A1^A9.");
        Drive.due("variables", x.count(4), 9);
        bad("given a is A1&A2&A3&A4 if A5 then b is A6 if A7^A8^A9, a is A1^@A0.");
        bad("given a is A1&A2&A3&A4 if A5 then b is A6 if A7^A8^A9^(!@A).");
        Drive.assertion(x, "given a is A then b is A.", NONE);
        Drive.due("variables of another assertion do not add up", x.count(4), 1);
    }

    private static void manyAtoms() {
        String all = Drive.repeat("A", "|", 299);
        good("given a is " + all + " then b is 0.");
        bad("given a is " + all + " then b is 0|@1.");
        bad("given a is " + all + " then b is 0 if @A.");
        bad("given a is " + all + "|0|@1 then b is 0.");
        good("given a is " + Drive.repeat("(A)", "|", 299) + " then b is (0).");
        bad("given a is " + Drive.repeat("(A)", "|", 300) + " then b is (@0).");
    }

    private static void whatStays() {
        TrajectoryCheck x = Drive.with("input a; wire b = !a;");
        Drive.assertion(x, "given a is 1 then c is 0.", 18);
        Drive.due("no assertion behind a fault", x.fails(), REFUSED);
        Drive.due("but the circuit", x.count(0), 2);
        Drive.assertion(x, "given a is A if B at 1 then b is A if B at 0 to 1.", NONE);
        Drive.assertion(x, "given a is C, a is D, a is E then a is E at 5 ?", 46);
        Drive.due("a fault leaves the assertion: variables", x.count(4), 2);
        Drive.due("a fault leaves the assertion: given", x.count(5), 1);
        Drive.due("a fault leaves the assertion: last", x.count(7), 1);
        Drive.due("a fault leaves the assertion: fails", x.fails(), 2);
        Drive.due("a fault leaves the assertion: shortfall", x.shortfall(3, 1), 0);
        Drive.assertion(x, "given a is C then b is !C.", NONE);
        Drive.due("the next one takes its place", x.fails(), 0);
        Drive.due("and its last time", x.count(7), 0);
    }
}
