/** The edges of ASSERTION and of promise 5: a test for each sentence. */
public final class EdgeAssertionTest {
    private static final int NONE = TrajectoryCheck.NONE, REFUSED = TrajectoryCheck.REFUSED, X = 2;
    private static final String CIRCUIT = "input a;wire b=!a;latch c=a;";

    public static void main(String[] args) {
        oneClauseInEachPart();
        thePointEndsIt();
        optionalParts();
        nameOfANode();
        timesZeroToEleven();
        zerosBeforeTimes();
        timesTooGreat();
        theSecondNotLess();
        withoutAtZero();
        withoutToThatTimeAlone();
        fromTo();
        theLast();
        atMost24Given();
        atMost24BehindThen();
        nineVariables();
        theTenthVariable();
        numberedAsTheyComeFirst();
        notsAndBracketsTenDeep();
        oneDigit();
        noNamesInBool();
        atMost300Atoms();
        atomsOfAllClausesAddUp();
        assertionIsReplaced();
        timesAreForgotten();
        exclusionsAreForgotten();
        valuesAreForgotten();
        textsAreForgotten();
        faultLeavesTheAssertion();
        faultLeavesNoAssertion();
        withoutACircuit();
        Drive.finish("EdgeAssertionTest");
    }

    private static TrajectoryCheck good(String text) {
        return Drive.with(CIRCUIT, text);
    }

    private static void bad(String marked) {
        Drive.faultyAssertion(Drive.with(CIRCUIT), marked);
    }

    /** "given CLAUSE { , CLAUSE } then CLAUSE { , CLAUSE } .". */
    private static void oneClauseInEachPart() {
        TrajectoryCheck x = good("given a is 1 then b is 0.");
        Drive.due("given", x.count(5), 1);
        Drive.due("behind then", x.count(6), 1);
        bad("given @then b is 0.");
        bad("given a is 1 then @.");
        bad("@then b is 0.");
        bad("given a is 1@.");
        bad("given a is 1,@then b is 0.");
        bad("given @,a is 1 then b is 0.");
        bad("given a is 1 then b is 0,@.");
        bad("given a is 1 then b is 0 @then c is 0.");
        bad("given a is 1 @given b is 1 then b is 0.");
    }

    /** "the point ends it: no TOKEN may stand behind". */
    private static void thePointEndsIt() {
        good("given a is 1 then b is 0.");
        good("given a is 1 then b is 0. \n\n  ");
        bad("given a is 1 then b is 0@");
        bad("given a is 1 then b is 0 \n@");
        String[] tokens = {".", ",", ";", "=", "&", "!", "(", ")", "a", "A", "0", "given a is 1 then b is 0.", "then", "at 1", "input d;"};
        for (String token : tokens) {
            bad("given a is 1 then b is 0.@" + token);
            bad("given a is 1 then b is 0. \n @" + token);
        }
    }

    /** "CLAUSE: NAME is BOOL [if BOOL] [at NUMBER [to NUMBER]]", [ ] one or none. */
    private static void optionalParts() {
        good("given a is A if B then b is A if B.");
        good("given a is A at 1 then b is A at 1.");
        good("given a is A if B at 1 to 2 then b is A if B at 1 to 2.");
        bad("given a is A if B @if C then b is 0.");
        bad("given a is A at 1 @at 2 then b is 0.");
        bad("given a is A at 1 @if B then b is 0.");
        bad("given a is A @to 1 then b is 0.");
        bad("given a is A at 1 to 2 @to 3 then b is 0.");
        bad("given a is A if @at 1 then b is 0.");
        bad("given a is A at @to 1 then b is 0.");
        bad("given a is A at 1 to @then b is 0.");
        bad("given a @A then b is 0.");
        bad("given a is @is A then b is 0.");
        bad("given a is @if A then b is 0.");
        bad("given a@, b is 0 then b is 0.");
    }

    /** "NAME of a node". */
    private static void nameOfANode() {
        good("given a is 1, b is 0, c is 1 then a is 1, b is 0, c is 1.");
        bad("given @d is 1 then b is 0.");
        bad("given a is 1, @aa is 1 then b is 0.");
        bad("given a is 1 then @d is 0.");
        bad("given a is 1 then a is 1, @d is 0.");
        bad("given @A is 1 then b is 0.");
        bad("given @1 is 1 then b is 0.");
    }

    /** "the numbers 0 to 11". */
    private static void timesZeroToEleven() {
        for (int time = 0; time <= 11; time++) {
            Drive.due("at " + time, good("given a is 1 at " + time + " then b is 0.").count(7), time);
            Drive.due("to " + time, good("given a is 1 then b is 0 at 0 to " + time + ".").count(7), time);
        }
        bad("given a is 1 at @12 then b is 0.");
        bad("given a is 1 then b is 0 at @12.");
        bad("given a is 1 at 0 to @12 then b is 0.");
        bad("given a is 1 at 11 to @12 then b is 0.");
    }

    /** "zeros may stand before them". */
    private static void zerosBeforeTimes() {
        for (int time = 0; time <= 12; time++) {
            for (String zeros = "0"; zeros.length() + String.valueOf(time).length() <= 4; zeros += "0") {
                String number = zeros + time;
                if (time == 12) {
                    bad("given a is 1 at @" + number + " then b is 0.");
                    bad("given a is 1 at 0 to @" + number + " then b is 0.");
                } else {
                    Drive.due("at " + number, good("given a is 1 at " + number + " then b is 0.").count(7), time);
                    Drive.due("to " + number, good("given a is 1 at 0 to " + number + " then b is 0.").count(7), time);
                }
            }
        }
    }

    private static void timesTooGreat() {
        for (int time = 12; time <= 9999; time += time < 130 ? 1 : 97) {
            bad("given a is 1 at @" + time + " then b is 0.");
            bad("given a is 1 at 0 to @" + time + " then b is 0.");
        }
        bad("given a is 1 at @9999 then b is 0.");
        bad("given a is 1 at 0 to @9999 then b is 0.");
    }

    /** "the second not less". */
    private static void theSecondNotLess() {
        for (int from = 0; from <= 11; from++) {
            for (int to = 0; to <= 11; to++) {
                String times = "at " + from + " to " + (to < from ? "@" : "") + to;
                if (to < from) {
                    bad("given a is 1 " + times + " then b is 0.");
                    bad("given a is 1 then b is 0 " + times + ".");
                } else {
                    Drive.due("given " + times, good("given a is 1 " + times + " then b is 0.").count(7), to);
                    Drive.due("then " + times, good("given a is 1 then b is 0 " + times + ".").count(7), to);
                }
            }
        }
        good("given a is 1 at 0002 to 2 then b is 0.");
        bad("given a is 1 at 2 to @0001 then b is 0.");
    }

    /** "without: 0", in both parts. */
    private static void withoutAtZero() {
        TrajectoryCheck x = good("given a is A then a is A, c is A at 1, a is 0 if 0 at 2.");
        valuesOfA(x, 1, X, X);
        Drive.due("given at 0, asked at 0", x.fails(), 0);
        x = good("given a is A at 1 then a is A.");
        Drive.due("asked at 0 alone", x.shortfall(0, 1), 0);
        x = good("given a is A then a is A, c is 0 if 0 at 3.");
        Drive.due("not asked later", x.fails(), 0);
        Drive.due("the last time of none", good("given a is A then a is A.").count(7), 0);
    }

    private static void valuesOfA(TrajectoryCheck x, int... due) {
        for (int time = 0; time < due.length; time++) {
            Drive.due("a at " + time, x.value(0, time, 1), due[time]);
        }
        Drive.due("a behind the last", x.value(0, due.length, 1), NONE);
    }

    /** "without to: that time alone". */
    private static void withoutToThatTimeAlone() {
        TrajectoryCheck x = good("given a is A at 2 then a is A at 2, a is 0 if 0 at 4.");
        valuesOfA(x, X, X, 1, X, X);
        Drive.due("asked at that time", x.fails(), 0);
        x = good("given a is A at 1, a is A at 3 then a is A at 2.");
        Drive.due("the time that falls short", x.shortfall(1, 1), 2);
        Drive.due("the last", x.count(7), 3);
    }

    private static void fromTo() {
        TrajectoryCheck x = good("given a is A at 1 to 3 then a is A at 1 to 3, a is 0 if 0 at 4.");
        valuesOfA(x, X, 1, 1, 1, X);
        Drive.due("asked at these times", x.fails(), 0);
        x = good("given a is A at 1 to 3 then a is A at 0 to 3.");
        Drive.due("one before", x.shortfall(1, 1), 0);
        x = good("given a is A at 1 to 3 then a is A at 1 to 4.");
        Drive.due("one behind", x.shortfall(1, 1), 4);
        x = good("given a is A at 3 to 3 then a is A at 3 to 3.");
        valuesOfA(x, X, X, X, 1);
        x = good("given a is A at 0 to 11 then a is A at 0 to 11.");
        valuesOfA(x, 1, 1, 1, 1, 1, 1, 1, 1, 1, 1, 1, 1);
    }

    /** "the greatest one of the assertion (the LAST)", of whatever clause. */
    private static void theLast() {
        Drive.due("given", good("given a is 1 at 5 to 7, a is 1 at 2 then b is 0 at 3.").count(7), 7);
        Drive.due("behind then", good("given a is 1 at 5 to 7 then b is 0 at 8, b is 0.").count(7), 8);
        Drive.due("with an if that never is 1", good("given a is 1 if 0 at 9 then b is 0 if 0.").count(7), 9);
        Drive.due("less than before", good("given a is 1 then b is 0.").count(7), 0);
    }

    private static String clauses(int size) {
        return Drive.repeat("a is 1", ",", size);
    }

    /** "at most 24 clauses in each part". */
    private static void atMost24Given() {
        Drive.due("23", good("given " + clauses(23) + " then b is 0.").count(5), 23);
        Drive.due("24", good("given " + clauses(24) + " then b is 0.").count(5), 24);
        bad("given " + clauses(24) + ",@a is 1 then b is 0.");
        bad("given " + clauses(24) + ",@d is 1 then b is 0.");
        bad("given " + clauses(24) + ",@a");
        bad("given " + clauses(24) + ",@then b is 0.");
        bad("given " + clauses(24) + ",@");
    }

    private static void atMost24BehindThen() {
        Drive.due("23", good("given a is 1 then " + clauses(23) + ".").count(6), 23);
        TrajectoryCheck x = good("given " + clauses(24) + " then " + clauses(24) + ".");
        Drive.due("24 given", x.count(5), 24);
        Drive.due("24 behind then", x.count(6), 24);
        bad("given a is 1 then " + clauses(24) + ",@a is 1.");
        bad("given " + clauses(24) + " then " + clauses(24) + ",@a is 1.");
        bad("given a is 1 then " + clauses(24) + ",@.");
        bad("given a is 1 then " + clauses(24) + ",@");
        x = good("given a is 1, a is 0 at 1 then " + clauses(23) + ",c is 1 at 2.");
        Drive.due("the 24th falls short", x.shortfall(0, 0), 23);
    }

    /** "at most 9 different ones in an assertion". */
    private static void nineVariables() {
        Drive.due("none", good("given a is 1 then b is 0.").count(4), 0);
        Drive.due("eight", good("given a is " + Drive.list("A", "|", 8) + " then b is 0.").count(4), 8);
        Drive.due("nine", good("given a is " + Drive.list("A", "|", 9) + " then b is 0.").count(4), 9);
        Drive.due("nine over all", good("given a is A|B if C|D, a is E then b is F|G if H, c is I, c is A&B&C&D&E&F&G&H&I.").count(4), 9);
        TrajectoryCheck x = good("given a is " + Drive.list("A", "|", 9) + " then b is 0.");
        Drive.assertion(x, "given a is " + Drive.list("B", "|", 9) + " then b is 0.", NONE);
        Drive.due("nine others", x.count(4), 9);
    }

    private static void theTenthVariable() {
        String nine = Drive.list("A", "|", 9);
        bad("given a is " + nine + "|@A9 then b is 0.");
        bad("given a is " + nine + "|A8|A0|@A9 then b is 0.");
        bad("given a is " + nine + " if @B then b is 0.");
        bad("given a is " + nine + ", a is @B then b is 0.");
        bad("given a is " + nine + " then b is !(@B).");
        bad("given a is " + nine + " then b is A0 if A1 & @B.");
        TrajectoryCheck x = Drive.with(CIRCUIT);
        Drive.faultyAssertion(x, "given a is " + nine + "|@A9 then b is 0.");
        Drive.assertion(x, "given a is " + Drive.list("C", "&", 9) + " then b is 0.", NONE);
    }

    /** "numbered from 0 as they come first": the place in the text counts, not the alphabet. */
    private static void numberedAsTheyComeFirst() {
        TrajectoryCheck x = Drive.with("input a,b,c,d;",
            "given a is Z if Y, b is X if Z, c is A&!Y then d is W, a is X, b is V.");
        // Z is 0, Y 1, X 2, A 3, W 4, V 5.
        Drive.due("variables", x.count(4), 6);
        String[] due = {"110000", "101000", "010100", "000000"};
        for (int node = 0; node < due.length; node++) {
            for (int v = 0; v < 6; v++) {
                Drive.due("variable " + v + " for " + node, x.matters(node, 0, v), due[node].charAt(v) - '0');
            }
        }
    }

    /** "BOOL: as EXPR": ! and brackets at most 10 deep. */
    private static void notsAndBracketsTenDeep() {
        good("given a is !!!!!!!!!!A if ((((((((((B)))))))))) then b is !(!(!(!(!(A))))) if (!(!(!(!(!B))))).");
        bad("given a is !!!!!!!!!!@!A then b is 0.");
        bad("given a is 1 if !!!!!!!!!!@!A then b is 0.");
        bad("given a is ((((((((((@(A))))))))))) then b is 0.");
        bad("given a is 1 then b is ((((((((((1&@!A)))))))))).");
        bad("given a is 1 then b is 1 if !(!(!(!(!(@(A)))))).");
    }

    private static void oneDigit() {
        Drive.due("0 and 1", good("given a is 0, c is 1 then a is 0, b is 1, c is 1.").fails(), 0);
        String[] others = {"2", "9", "00", "01", "10", "11", "0001"};
        for (String other : others) {
            bad("given a is @" + other + " then b is 0.");
            bad("given a is 1 if @" + other + " then b is 0.");
            bad("given a is 1 then b is A&@" + other + ".");
        }
    }

    /** "with VARIABLES in place of names", and in a circuit the other way round. */
    private static void noNamesInBool() {
        bad("given a is @b then b is 0.");
        bad("given a is A & @a then b is 0.");
        bad("given a is A if @a then b is 0.");
        bad("given a is A then b is @d.");
        Drive.faultyCircuit("wire a=@A;");
        Drive.faultyCircuit("input b;wire a=b&!(@B);");
    }

    /** "at most 300 ATOMS in it". */
    private static void atMost300Atoms() {
        good("given a is " + Drive.repeat("A", "|", 298) + " then b is 0.");
        good("given a is " + Drive.repeat("A", "|", 299) + " then b is 0.");
        bad("given a is " + Drive.repeat("A", "|", 300) + " then b is @0.");
        good("given a is 1 then b is " + Drive.repeat("0", "|", 299) + ".");
        bad("given a is 1 then b is " + Drive.repeat("0", "|", 299) + "|@0.");
        bad("given a is " + Drive.repeat("A", "|", 300) + "|@A then b is 0.");
        bad("given a is " + Drive.repeat("A", "|", 300) + "|@B then b is 0.");
        bad("given a is " + Drive.repeat("A", "|", 300) + "|!(@1) then b is 0.");
    }

    private static void atomsOfAllClausesAddUp() {
        String fifty = Drive.repeat("A", "&", 50);
        String part = "a is " + fifty + " if " + fifty + ", b is " + fifty;
        good("given " + part + " then " + part + ".");
        bad("given " + part + " then " + part + "&@A.");
        bad("given " + part + " then " + part + " if @A.");
        bad("given " + part + " then " + part + ", c is @A.");
        TrajectoryCheck x = good("given " + part + " then " + part + ".");
        Drive.assertion(x, "given " + part + " then " + part + ".", NONE);
    }

    /** "The TAPE as a text becomes the assertion, which is checked". */
    private static void assertionIsReplaced() {
        TrajectoryCheck x = good("given a is A&B if C then b is D at 4, c is 1.");
        Drive.assertion(x, "given a is 1 then b is 1.", NONE);
        int[] counts = {3, 1, 1, 1, 0, 1, 1, 0};
        for (int what = 0; what < counts.length; what++) {
            Drive.due("count " + what, x.count(what), counts[what]);
        }
        Drive.due("fails", x.fails(), 1);
        Drive.due("excluded", x.excluded(), 0);
        Drive.due("value", x.value(1, 0, 0), 0);
        Drive.due("no other assignment", x.value(1, 0, 1), NONE);
    }

    /** Some calls of the same kind on one object, the last of which must not hold anything of those before. */
    private static TrajectoryCheck behind(String... before) {
        TrajectoryCheck x = Drive.with(CIRCUIT);
        for (int round = 0; round < 4; round++) {
            for (String text : before) {
                Drive.assertion(x, text, NONE);
            }
        }
        return x;
    }

    private static void timesAreForgotten() {
        String late = "given a is 1 at 5 to 7, a is 1 at 4, a is 1 at 3 then a is 1 at 6 to 8, a is 1 at 2.";
        TrajectoryCheck x = behind(late);
        for (int round = 0; round < 2; round++) {
            Drive.assertion(x, "given a is A, a is A then a is A, a is A.", NONE);
            Drive.due("last", x.count(7), 0);
            valuesOfA(x, 1);
            Drive.due("fails", x.fails(), 0);
        }
    }

    private static void exclusionsAreForgotten() {
        TrajectoryCheck x = behind("given a is " + Drive.list("A", "&", 9) + ", a is 1, a is 0 then a is 1.");
        Drive.due("all are excluded", x.excluded(), 512);
        for (int round = 0; round < 2; round++) {
            Drive.assertion(x, "given a is " + Drive.list("A", "&", 9) + " then a is 1.", NONE);
            Drive.due("none is excluded", x.excluded(), 0);
            Drive.due("all but one fail", x.fails(), 511);
        }
    }

    private static void valuesAreForgotten() {
        TrajectoryCheck x = behind("given a is 1 at 0 to 11, c is 1 then a is 1 at 0 to 11.",
            "given a is 0 at 0 to 11, c is 0 then a is 0 at 0 to 11.");
        Drive.assertion(x, "given b is 1 if 0 at 11 then a is 1 at 0 to 11.", NONE);
        for (int time = 0; time <= 11; time++) {
            for (int node = 0; node < 3; node++) {
                Drive.due("node " + node + " at " + time, x.value(node, time, 0), X);
            }
        }
        Drive.due("which is not 1", x.fails(), 1);
    }

    private static void textsAreForgotten() {
        String long300 = "given a is " + Drive.repeat("A", "|", 150) + ", a is A then a is " + Drive.repeat("A", "&", 149) + ".";
        TrajectoryCheck x = behind(long300, "given a is A if B then b is C.");
        Drive.assertion(x, long300, NONE);
        Drive.due("fails", x.fails(), 0);
        Drive.assertion(x, "given a is !A, c is A then a is !A, c is A, b is A.", NONE);
        Drive.due("another's fails", x.fails(), 0);
        Drive.assertion(x, "given a is !A, c is A then a is !A, c is A, b is !A.", NONE);
        Drive.due("all fail", x.fails(), 2);
        Drive.due("by the third clause", x.shortfall(1, 0), 2);
    }

    private static final String[] FAULTY = {
        "@", "given@", "given @d is 1", "given a is C, a is D then b is @c", "given a is 1 then b is 1 at 9 to @8.",
        "given a is 1 then b is 1 at 11@", "given a is C then b is C at 7. @.", "given a is C at 5@?"
    };

    /** "Its FAULT if it has one: the assertion stays". */
    private static void faultLeavesTheAssertion() {
        for (String faulty : FAULTY) {
            TrajectoryCheck x = good("given a is A, a is 1 if B then b is B, c is !A at 1.");
            Drive.faultyAssertion(x, faulty);
            int[] counts = {3, 1, 1, 1, 2, 2, 2, 1};
            for (int what = 0; what < counts.length; what++) {
                Drive.due("count " + what, x.count(what), counts[what]);
            }
            // A 0, B 1 is excluded; c is A at 1, so all others fall short.
            Drive.due("fails", x.fails(), 3);
            Drive.due("excluded", x.excluded(), 1);
            Drive.due("failing", x.failing(1), 2);
            Drive.due("the clause", x.shortfall(2, 0), 1);
            Drive.due("the time", x.shortfall(2, 1), 1);
            Drive.due("value", x.value(2, 1, 2), 1);
            Drive.due("an excluded one", x.value(2, 1, 1), 3);
            Drive.due("matters", x.matters(1, 0, 0), 1);
        }
    }

    private static void faultLeavesNoAssertion() {
        for (String faulty : FAULTY) {
            TrajectoryCheck x = Drive.with(CIRCUIT);
            Drive.faultyAssertion(x, faulty);
            Drive.due("fails", x.fails(), REFUSED);
            Drive.due("value", x.value(0, 0, 0), NONE);
            Drive.due("nodes", x.count(0), 3);
            for (int what = 4; what <= 7; what++) {
                Drive.due("count " + what, x.count(what), 0);
            }
        }
    }

    /** "Without a circuit no name is a node". */
    private static void withoutACircuit() {
        Drive.faultyAssertion(new TrajectoryCheck(), "given @a is 1 then a is 1.");
        Drive.faultyAssertion(new TrajectoryCheck(), "@");
        Drive.faultyAssertion(new TrajectoryCheck(), "given@");
        Drive.faultyAssertion(new TrajectoryCheck(), "@then a is 1.");
        Drive.faultyAssertion(Drive.with(""), "given @a is 1 then a is 1.");
        TrajectoryCheck x = new TrajectoryCheck();
        Drive.faultyAssertion(x, "given @a is 1 then a is 1.");
        Drive.due("no assertion", x.fails(), REFUSED);
    }
}
