/** The edges of VALUES, ASSIGNMENT, TRAJECTORY, EXCLUDED and FAILS: a test for each sentence. */
public final class EdgeTrajectoryTest {
    private static final int NONE = TrajectoryCheck.NONE, X = 2, OUT = 3;

    public static void main(String[] args) {
        not();
        and();
        or();
        xor();
        noVariableAtAll();
        everyNumberOfVariables();
        variableZeroIsTheHighest();
        inputIsX();
        wireAtThisTime();
        wiresBehindWhatTheyAreMadeOf();
        fortyWires();
        latchAtTimeZero();
        latchBehindTimeZero();
        xBecomesWhatIsSaid();
        whatIsSaidGoesOn();
        ifIsZero();
        ifIsOne();
        clauseAtAnotherTime();
        saysWhatTheNodeHas();
        saysAnotherThanTheNodeHas();
        twoSayTheSame();
        twoSayDifferentValues();
        excludedAtTheLastTime();
        excludedDoesNotFail();
        xIsNoneThatIsSaid();
        behindThenIfIsZero();
        behindThenAtItsTimes();
        behindThenAnyClause();
        Drive.finish("EdgeTrajectoryTest");
    }

    /** The values of the wire r = EXPR for a and b of 0, 1 and X each: a is A if B, b is C if D, all else X. */
    private static void table(String expression, String due) {
        TrajectoryCheck x = Drive.with("input a,b;wire r=" + expression + ";", "given a is A if B, b is C if D then a is A if B.");
        int[] numbersOfA = {4, 12, 0};
        int[] numbersOfB = {1, 3, 0};
        for (int a = 0; a <= X; a++) {
            for (int b = 0; b <= X; b++) {
                int number = numbersOfA[a] + numbersOfB[b];
                int want = due.charAt(3 * a + b) == 'X' ? X : due.charAt(3 * a + b) - '0';
                Drive.due("a is as said", x.value(0, 0, number), a);
                Drive.due("b is as said", x.value(1, 0, number), b);
                Drive.due(expression + " of " + a + " and " + b, x.value(2, 0, number), want);
            }
        }
    }

    /** "! turns 0 and 1". */
    private static void not() {
        table("!a", "111000XXX");
        table("!!a", "000111XXX");
        table("!0", "111111111");
        table("!1", "000000000");
    }

    /** "& is 0 if one is, 1 if both are, else X". */
    private static void and() {
        table("a&b", "00001X0XX");
        table("a&a", "000111XXX");
        table("a&!a", "000000XXX");
        table("a&0", "000000000");
        table("a&1", "000111XXX");
    }

    /** "| 1 if one is, 0 if both are, else X". */
    private static void or() {
        table("a|b", "01X111X1X");
        table("a|!a", "111111XXX");
        table("a|0", "000111XXX");
        table("a|1", "111111111");
    }

    /** "^ X if one is, else whether they differ". */
    private static void xor() {
        table("a^b", "01X10XXXX");
        table("a^a", "000000XXX");
        table("a^0", "000111XXX");
        table("a^1", "111000XXX");
        table("(a&0)^b", "01X01X01X");
    }

    /** "An ASSIGNMENT gives each of the V variables 0 or 1": with none there is one, number 0. */
    private static void noVariableAtAll() {
        TrajectoryCheck x = Drive.with("input a;", "given a is 1 then a is 0.");
        Drive.due("fails", x.fails(), 1);
        Drive.due("failing", x.failing(0), 0);
        Drive.due("no other", x.failing(1), NONE);
        Drive.due("value", x.value(0, 0, 0), 1);
        Drive.due("no other value", x.value(0, 0, 1), NONE);
        Drive.due("no variable matters", x.matters(0, 0, 0), NONE);
        x = Drive.with("input a;", "given a is 1, a is 0 then a is 0.");
        Drive.due("excluded", x.excluded(), 1);
        Drive.due("value of it", x.value(0, 0, 0), OUT);
        Drive.due("fails then", x.fails(), 0);
    }

    /** "its NUMBER has V bits". */
    private static void everyNumberOfVariables() {
        for (int size = 0; size <= 9; size++) {
            String all = size == 0 ? "1" : Drive.list("V", "&", size);
            int assignments = 1 << size;
            TrajectoryCheck x = Drive.with("input a,b;", "given a is " + all + " then b is 1.");
            Drive.due("all fail", x.fails(), assignments);
            Drive.due("the last", x.failing(assignments - 1), assignments - 1);
            Drive.due("none behind it", x.failing(assignments), NONE);
            Drive.due("the first's value", x.value(0, 0, 0), size == 0 ? 1 : 0);
            Drive.due("the last's value", x.value(0, 0, assignments - 1), 1);
            Drive.due("no value behind it", x.value(0, 0, assignments), NONE);
            x = Drive.with("input a,b;", "given a is " + all + ", b is 1, b is 0 then b is 1.");
            Drive.due("all are excluded", x.excluded(), assignments);
            Drive.due("none fails", x.fails(), 0);
        }
    }

    /** "variable 0 the highest". */
    private static void variableZeroIsTheHighest() {
        for (int size = 1; size <= 9; size++) {
            TrajectoryCheck x = Drive.with("input " + Drive.list("n", ",", size) + ";", given(size) + " then n0 is 1.");
            for (int v = 0; v < size; v++) {
                int bit = 1 << size - 1 - v;
                Drive.due("variable " + v + " of " + size, x.value(v, 0, bit), 1);
                Drive.due("all others of " + size, x.value(v, 0, (1 << size) - 1 - bit), 0);
            }
        }
    }

    /** n0 is V0, n1 is V1, .. */
    private static String given(int size) {
        StringBuilder text = new StringBuilder("given ");
        for (int v = 0; v < size; v++) {
            text.append(v == 0 ? "" : ", ").append("n").append(v).append(" is V").append(v);
        }
        return text.toString();
    }

    private static void row(TrajectoryCheck x, int node, int assignment, int... due) {
        for (int time = 0; time < due.length; time++) {
            Drive.due("node " + node + " at " + time + " under " + assignment, x.value(node, time, assignment), due[time]);
        }
        Drive.due("behind the last", x.value(node, due.length, assignment), NONE);
    }

    /** "an input X", at every time, whatever it was before. */
    private static void inputIsX() {
        TrajectoryCheck x = Drive.with("input a,b;", "given a is 1 at 1 then b is 1 at 3.");
        row(x, 0, 0, X, 1, X, X);
        row(x, 1, 0, X, X, X, X);
    }

    /** "a wire that of its EXPR at this time". */
    private static void wireAtThisTime() {
        TrajectoryCheck x = Drive.with("input a;wire w=!a;wire k=1;", "given a is 1 at 1, a is 0 at 2 then w is 1 at 3.");
        row(x, 1, 0, X, 0, 1, X);
        row(x, 2, 0, 1, 1, 1, 1);
    }

    /** "wires behind what they are made of": whichever way they are declared. */
    private static void wiresBehindWhatTheyAreMadeOf() {
        StringBuilder falling = new StringBuilder();
        StringBuilder rising = new StringBuilder("input n0;");
        for (int i = 0; i < 39; i++) {
            falling.append("wire n").append(i).append("=!n").append(i + 1).append(";");
            rising.append("wire n").append(i + 1).append("=!n").append(i).append(";");
        }
        TrajectoryCheck x = Drive.with(falling + "input n39;", "given n39 is A, n20 is !A at 1 then n0 is 1.");
        TrajectoryCheck y = Drive.with(rising.toString(), "given n0 is A, n20 is A at 1 then n0 is 1.");
        for (int i = 0; i < 40; i++) {
            row(x, i, 1, (39 - i) % 2 == 0 ? 1 : 0, i > 20 ? X : (39 - i) % 2 == 0 ? 1 : 0);
            row(y, i, 1, i % 2 == 0 ? 1 : 0, i < 20 ? X : i % 2 == 0 ? 1 : 0);
        }
    }

    /** Forty wires and nothing else: the first is made of all others, or the last is. */
    private static void fortyWires() {
        StringBuilder falling = new StringBuilder();
        StringBuilder rising = new StringBuilder("wire n0=1;");
        for (int i = 0; i < 39; i++) {
            falling.append("wire n").append(i).append("=!n").append(i + 1).append(";");
            rising.append("wire n").append(i + 1).append("=!n").append(i).append(";");
        }
        TrajectoryCheck x = Drive.with(falling + "wire n39=1;", "given n39 is 1 then n0 is 0.");
        TrajectoryCheck y = Drive.with(rising.toString(), "given n0 is 1 then n39 is 0.");
        Drive.due("fails", x.fails(), 0);
        Drive.due("fails", y.fails(), 0);
        for (int i = 0; i < 40; i++) {
            row(x, i, 0, (39 - i) % 2 == 0 ? 1 : 0);
            row(y, i, 0, i % 2 == 0 ? 1 : 0);
        }
    }

    /** "a latch X at time 0", even one of a constant. */
    private static void latchAtTimeZero() {
        TrajectoryCheck x = Drive.with("input a;latch l=a;latch k=1;latch z=0;", "given a is 1 then l is 1.");
        row(x, 1, 0, X);
        row(x, 2, 0, X);
        row(x, 3, 0, X);
        Drive.due("X is not 1", x.fails(), 1);
        x = Drive.with("latch k=1;", "given k is 0 then k is 0.");
        Drive.due("what is given at 0 meets X", x.excluded(), 0);
        row(x, 0, 0, 0);
    }

    /** "then that of its EXPR at the time before". */
    private static void latchBehindTimeZero() {
        TrajectoryCheck x = Drive.with("latch l=a;input a;latch m=l;latch k=1;latch t=!t;",
            "given a is A, a is !A at 2, t is 0 at 1 then a is 1 at 11.");
        row(x, 0, 1, X, 1, X, 0, X, X, X, X, X, X, X, X);
        row(x, 2, 1, X, X, 1, X, 0, X, X, X, X, X, X, X);
        row(x, 3, 1, X, 1, 1, 1, 1, 1, 1, 1, 1, 1, 1, 1);
        row(x, 4, 1, X, 0, 1, 0, 1, 0, 1, 0, 1, 0, 1, 0);
    }

    /** "X becomes that": of an input, a wire and a latch, at time 0 and later. */
    private static void xBecomesWhatIsSaid() {
        TrajectoryCheck x = Drive.with("input a;wire w=a;latch l=a;",
            "given a is A, w is A at 1, l is A at 0, l is !A at 2 then a is 1 if 0 at 3.");
        row(x, 0, 1, 1, X, X, X);
        row(x, 1, 1, 1, 1, X, X);
        row(x, 2, 1, 1, 1, 0, X);
        row(x, 2, 0, 0, 0, 1, X);
    }

    /** What is made of a node has what was said of it, not what the node would have had. */
    private static void whatIsSaidGoesOn() {
        TrajectoryCheck x = Drive.with("wire v=w&1;wire w=a;input a;latch l=w;latch m=l;",
            "given w is A, l is A at 0 then a is 1 if 0 at 2.");
        row(x, 0, 1, 1, X, X);
        row(x, 2, 1, X, X, X);
        row(x, 3, 1, 1, 1, X);
        row(x, 4, 1, X, 1, 1);
    }

    /** "(and if it has one, its if is 1)": one whose if is 0 says nothing. */
    private static void ifIsZero() {
        TrajectoryCheck x = Drive.with("input a;", "given a is 1 if 0 then a is 0 if 0.");
        row(x, 0, 0, X);
        Drive.due("not excluded", x.excluded(), 0);
        x = Drive.with("input a;", "given a is 1, a is 0 if 0 then a is 1.");
        Drive.due("nothing is said against it", x.excluded(), 0);
        Drive.due("nor fails", x.fails(), 0);
        x = Drive.with("input a;", "given a is A if B then a is A.");
        row(x, 0, 0, X);
        row(x, 0, 2, X);
        Drive.due("both without B fail", x.fails(), 2);
        Drive.due("the last of them", x.failing(1), 2);
    }

    private static void ifIsOne() {
        TrajectoryCheck x = Drive.with("input a;", "given a is A if B then a is A if B.");
        row(x, 0, 1, 0);
        row(x, 0, 3, 1);
        Drive.due("none fails", x.fails(), 0);
        x = Drive.with("input a;", "given a is 1, a is 0 if 1 then a is 1.");
        Drive.due("it is said", x.excluded(), 1);
    }

    private static void clauseAtAnotherTime() {
        TrajectoryCheck x = Drive.with("input a;", "given a is 1 at 0 to 2, a is 0 at 3 to 5 then a is 1 at 0 to 2, a is 0 at 3 to 5.");
        row(x, 0, 0, 1, 1, 1, 0, 0, 0);
        Drive.due("not excluded", x.excluded(), 0);
        Drive.due("none fails", x.fails(), 0);
        x = Drive.with("input a;", "given a is 1 at 0 to 3, a is 0 at 3 to 5 then a is 1.");
        Drive.due("where they meet", x.excluded(), 1);
    }

    /** A clause that says what the node has already. */
    private static void saysWhatTheNodeHas() {
        TrajectoryCheck x = Drive.with("input a;wire w=!a;latch l=w;wire k=0;",
            "given a is A, w is !A, l is !A at 1, k is 0 at 0 to 1 then w is !A.");
        Drive.due("none is excluded", x.excluded(), 0);
        Drive.due("none fails", x.fails(), 0);
        row(x, 2, 1, X, 0);
    }

    /** "if it says another one than the node has .. EXCLUDED": of a wire and of a latch. */
    private static void saysAnotherThanTheNodeHas() {
        TrajectoryCheck x = Drive.with("input a;wire w=!a;", "given a is A, w is B then a is 1 if 0.");
        Drive.due("a wire", x.excluded(), 2);
        row(x, 0, 0, OUT);
        row(x, 0, 1, 0);
        row(x, 1, 2, 0);
        row(x, 1, 3, OUT);
        x = Drive.with("input a;latch l=a;", "given a is A, l is B at 1 then a is 1 if 0.");
        Drive.due("a latch", x.excluded(), 2);
        row(x, 1, 1, OUT, OUT);
        row(x, 1, 3, X, 1);
        x = Drive.with("wire k=0;", "given k is A then k is 0.");
        Drive.due("a constant", x.excluded(), 1);
        Drive.due("which does not fail", x.fails(), 0);
    }

    private static void twoSayTheSame() {
        TrajectoryCheck x = Drive.with("input a;", "given a is A, a is A, a is !!A then a is A.");
        Drive.due("none is excluded", x.excluded(), 0);
        Drive.due("none fails", x.fails(), 0);
    }

    /** "or two do". */
    private static void twoSayDifferentValues() {
        TrajectoryCheck x = Drive.with("input a,b;", "given a is A, a is B then b is 1.");
        Drive.due("those where they differ", x.excluded(), 2);
        Drive.due("all others fail", x.fails(), 2);
        row(x, 0, 1, OUT);
        row(x, 1, 2, OUT);
        row(x, 0, 3, 1);
        x = Drive.with("input a;", "given a is 0, a is 1 then a is 1.");
        Drive.due("0, then 1", x.excluded(), 1);
        x = Drive.with("input a,b;", "given a is 1, b is 0 then a is 1.");
        Drive.due("of two nodes", x.excluded(), 0);
        x = Drive.with("input a;", "given a is 1 if A, a is 0 if !A then a is A.");
        Drive.due("never both", x.excluded(), 0);
        Drive.due("and it is A", x.fails(), 0);
        x = Drive.with("input a;", "given a is 1 if A, a is 0 if B then a is A if A^B.");
        Drive.due("where both", x.excluded(), 1);
        row(x, 0, 3, OUT);
        row(x, 0, 0, X);
    }

    private static void excludedAtTheLastTime() {
        TrajectoryCheck x = Drive.with("input a;latch l=a;", "given a is A at 10, l is 1 at 11 then a is 0.");
        Drive.due("excluded", x.excluded(), 1);
        row(x, 0, 0, OUT, OUT, OUT, OUT, OUT, OUT, OUT, OUT, OUT, OUT, OUT, OUT);
        Drive.due("the other one fails", x.failing(0), 1);
    }

    /** "It FAILS if it is not excluded, and ..". */
    private static void excludedDoesNotFail() {
        TrajectoryCheck x = Drive.with("input a,b;", "given a is A, a is 1 then a is 0, b is 1.");
        Drive.due("fails", x.fails(), 1);
        Drive.due("failing", x.failing(0), 1);
        Drive.due("no shortfall", x.shortfall(0, 0), NONE);
        x = Drive.with("input a,b;", "given a is 1, a is 0 at 1, a is 1 at 1 then b is 1.");
        Drive.due("nor what is excluded later", x.fails(), 0);
    }

    /** "says another value than the node has (X is none that is said)". */
    private static void xIsNoneThatIsSaid() {
        Drive.due("0 of X", Drive.with("input a,b;", "given a is 1 then b is 0.").fails(), 1);
        Drive.due("1 of X", Drive.with("input a,b;", "given a is 1 then b is 1.").fails(), 1);
        Drive.due("0 of 0", Drive.with("input a,b;", "given b is 0 then b is 0.").fails(), 0);
        Drive.due("1 of 1", Drive.with("input a,b;", "given b is 1 then b is 1.").fails(), 0);
        Drive.due("0 of 1", Drive.with("input a,b;", "given b is 1 then b is 0.").fails(), 1);
        Drive.due("1 of 0", Drive.with("input a,b;", "given b is 0 then b is 1.").fails(), 1);
    }

    /** "whose if, if it has one, is 1". */
    private static void behindThenIfIsZero() {
        TrajectoryCheck x = Drive.with("input a,b;", "given a is A then b is 1 if 0, a is 0 if B.");
        Drive.due("where B is 1 and A is", x.fails(), 1);
        Drive.due("which", x.failing(0), 3);
        Drive.due("by its second clause", x.shortfall(3, 0), 1);
        Drive.due("if 1", Drive.with("input a,b;", "given a is 1 then b is 1 if 1.").fails(), 1);
    }

    /** "a clause behind then, at a time". */
    private static void behindThenAtItsTimes() {
        String circuit = "input a;";
        Drive.due("at its only one", Drive.with(circuit, "given a is 1 at 1 to 2 then a is 1 at 2.").fails(), 0);
        Drive.due("before", Drive.with(circuit, "given a is 1 at 1 to 2 then a is 1 at 0.").fails(), 1);
        Drive.due("behind", Drive.with(circuit, "given a is 1 at 1 to 2 then a is 1 at 3.").fails(), 1);
        Drive.due("at all of them", Drive.with(circuit, "given a is 1 at 1 to 2 then a is 1 at 1 to 2.").fails(), 0);
        Drive.due("at the first of them", Drive.with(circuit, "given a is 1 at 1 to 2 then a is 1 at 0 to 2.").fails(), 1);
        Drive.due("at the last of them", Drive.with(circuit, "given a is 1 at 1 to 2 then a is 1 at 1 to 3.").fails(), 1);
        Drive.due("at the last time", Drive.with(circuit, "given a is 1 at 0 to 10 then a is 1 at 0 to 11.").shortfall(0, 1), 11);
    }

    /** One clause that falls short is enough, be it the first or the last. */
    private static void behindThenAnyClause() {
        String rest = Drive.repeat("a is 1", ",", 23);
        Drive.due("none", Drive.with("input a,b;", "given a is 1 then a is 1," + rest + ".").fails(), 0);
        Drive.due("the first", Drive.with("input a,b;", "given a is 1 then b is 1," + rest + ".").shortfall(0, 0), 0);
        Drive.due("the last", Drive.with("input a,b;", "given a is 1 then " + rest + ",b is 1.").shortfall(0, 0), 23);
    }
}
