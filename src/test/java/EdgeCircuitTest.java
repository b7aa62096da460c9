/** The edges of CIRCUIT and of promise 4: a test for each sentence. */
public final class EdgeCircuitTest {
    private static final int NONE = TrajectoryCheck.NONE, REFUSED = TrajectoryCheck.REFUSED, X = 2;
    private static final String FORTY = Drive.list("n", ",", 40);

    public static void main(String[] args) {
        anyNumberOfItems();
        inputOfOneNameOrMore();
        wireAndLatchOfOneName();
        numberedAsDeclared();
        atMostFortyNodes();
        fortyFirstNode();
        fortyOfEachKind();
        allDifferent();
        namesWhereverDeclared();
        oneDigit();
        notsTenDeep();
        bracketsTenDeep();
        bothTenDeep();
        depthDoesNotAddUp();
        atMost300Atoms();
        atomsOfAllItemsAddUp();
        bracketsAreNotCounted();
        operatorsInTheirOrder();
        emptyTape();
        circuitEndsTheAssertion();
        faultLeavesTheCircuit();
        faultLeavesTheAssertion();
        faultOnANewObject();
        newCircuitForgetsTheOld();
        expressionsAreForgotten();
        longTextsDoNotAddUp();
        Drive.finish("EdgeCircuitTest");
    }

    /** "{ ITEM }", { } any number. */
    private static void anyNumberOfItems() {
        Drive.due("no item", Drive.with("").count(0), 0);
        Drive.due("one item", Drive.with("input a;").count(0), 1);
        Drive.due("forty items", Drive.with("input " + Drive.list("n", ";input ", 40) + ";").count(0), 40);
        Drive.faultyCircuit("@;");
        Drive.faultyCircuit("input a;@;");
    }

    /** "input NAME { , NAME } ;". */
    private static void inputOfOneNameOrMore() {
        Drive.due("one", Drive.with("input a;").count(1), 1);
        Drive.due("two", Drive.with("input a,b;").count(1), 2);
        Drive.faultyCircuit("input @;");
        Drive.faultyCircuit("input @,a;");
        Drive.faultyCircuit("input a,@;");
        Drive.faultyCircuit("input a,@,b;");
        Drive.faultyCircuit("input a@=1;");
    }

    /** "wire NAME = EXPR ; or latch NAME = EXPR ;". */
    private static void wireAndLatchOfOneName() {
        String[] kinds = {"wire", "latch"};
        for (String kind : kinds) {
            Drive.due(kind, Drive.with(kind + " a=0;").count(0), 1);
            Drive.faultyCircuit(kind + " @=0;");
            Drive.faultyCircuit(kind + " a@;");
            Drive.faultyCircuit(kind + " a@,b=0;");
            Drive.faultyCircuit(kind + " a=@;");
            Drive.faultyCircuit(kind + " a=0@,b=0;");
            Drive.faultyCircuit(kind + " a=0 @" + kind + " b=0;");
        }
    }

    /** "numbered from 0 as their names are declared": each node's cone tells which it is. */
    private static void numberedAsDeclared() {
        TrajectoryCheck x = Drive.with("wire w2=l1&i1; input i0,i1; latch l1=i0; wire w4=w2&l1; input i2;",
            "given i0 is A, i1 is B then i0 is A.");
        int[] cones = {3, 0, 0, 1, 4, 0};
        for (int node = 0; node < cones.length; node++) {
            Drive.due("cone of " + node, x.cone(node), cones[node]);
        }
        Drive.due("node 1 is i0", x.matters(1, 0, 0), 1);
        Drive.due("node 2 is i1", x.matters(2, 0, 1), 1);
    }

    /** "at most 40". */
    private static void atMostFortyNodes() {
        Drive.due("39", Drive.with("input " + Drive.list("n", ",", 39) + ";").count(0), 39);
        Drive.due("40", Drive.with("input " + FORTY + ";").count(0), 40);
        Drive.faultyCircuit("input " + FORTY + ",@n40;");
    }

    private static void fortyFirstNode() {
        Drive.faultyCircuit("input " + FORTY + ";input @n40;");
        Drive.faultyCircuit("input " + FORTY + ";wire @n40=0;");
        Drive.faultyCircuit("input " + FORTY + ";latch @n40=0;");
        Drive.faultyCircuit("input " + FORTY + ",@n0;");
        Drive.faultyCircuit("input " + FORTY + ",@n40,n41,n42;");
        Drive.faultyCircuit("input " + FORTY + "; @n40");
        // What is too much is told before what misses behind it.
        Drive.faultyCircuit("input " + FORTY + ",@n40");
        Drive.faultyCircuit("input " + FORTY + ",@");
    }

    private static void fortyOfEachKind() {
        String wires = "wire " + Drive.list("n", "=0;wire ", 40) + "=0;";
        String latches = "latch " + Drive.list("n", "=0;latch ", 40) + "=0;";
        Drive.due("forty wires", Drive.with(wires).count(2), 40);
        Drive.due("forty latches", Drive.with(latches).count(3), 40);
        Drive.faultyCircuit(wires + "input @more;");
        Drive.faultyCircuit(latches + "wire @more=0;");
        Drive.faultyCircuit(latches + "latch @more=0;");
    }

    /** "all different". */
    private static void allDifferent() {
        Drive.faultyCircuit("input a,@a;");
        Drive.faultyCircuit("input a;input @a;");
        Drive.faultyCircuit("input a;wire @a=0;");
        Drive.faultyCircuit("wire a=0;latch @a=0;");
        Drive.faultyCircuit("latch a=0;input b,@a;");
        Drive.faultyCircuit("input " + Drive.list("n", ",", 39) + ",@n38;");
        Drive.faultyCircuit("input " + Drive.list("n", ",", 39) + ",@n0;");
        Drive.with("input a,aa,aaa;wire a0=0;latch a_=0;");
    }

    /** "the NAME of a node, wherever that is declared". */
    private static void namesWhereverDeclared() {
        Drive.due("before", Drive.with("input a;wire b=a;").cone(1), 1);
        Drive.due("behind", Drive.with("wire b=a;input a;").cone(0), 1);
        Drive.due("behind, of a latch", Drive.with("latch b=a;latch a=0;").cone(0), 1);
        Drive.due("itself", Drive.with("latch b=b;").cone(0), 1);
        Drive.due("the fortieth from the first", Drive.with("wire a=n38;input " + Drive.list("n", ",", 39) + ";").cone(0), 1);
        TrajectoryCheck x = Drive.with("wire c=b&b;wire b=!a;input a;", "given a is A then c is !A.");
        Drive.due("a wire made of a later one", x.fails(), 0);
    }

    /** "the one digit 0 or 1". */
    private static void oneDigit() {
        TrajectoryCheck x = Drive.with("wire a=0;wire b=1;input c;", "given c is 1 then a is 0,b is 1.");
        Drive.due("0 and 1", x.fails(), 0);
        String[] others = {"2", "9", "00", "01", "10", "11", "000", "0001", "0000"};
        for (String other : others) {
            Drive.faultyCircuit("wire a=@" + other + ";");
            Drive.faultyCircuit("wire a=0&!(1|@" + other + ");");
        }
    }

    private static String deep(String opening, int times, String inner, String closing) {
        return Drive.repeat(opening, "", times) + inner + Drive.repeat(closing, "", times);
    }

    /** "! and brackets at most 10 deep". */
    private static void notsTenDeep() {
        Drive.with("wire a=" + deep("!", 9, "0", "") + ";");
        Drive.with("wire a=" + deep("!", 10, "0", "") + ";");
        Drive.faultyCircuit("wire a=" + deep("!", 10, "@!0", "") + ";");
        Drive.faultyCircuit("wire a=" + deep("!", 10, "@!", "") + Drive.repeat("!", "", 500) + "0;");
        Drive.faultyCircuit("latch a=0&" + deep("!", 10, "@!0", "") + ";");
    }

    private static void bracketsTenDeep() {
        Drive.with("wire a=" + deep("(", 9, "0", ")") + ";");
        Drive.with("wire a=" + deep("(", 10, "0", ")") + ";");
        Drive.faultyCircuit("wire a=" + deep("(", 10, "@(0)", ")") + ";");
        Drive.faultyCircuit("wire a=" + deep("(", 10, "1|@(0)", ")") + ";");
        Drive.faultyCircuit("wire a=" + deep("(", 10, "@(", "") + Drive.repeat("(", "", 1500));
    }

    private static void bothTenDeep() {
        Drive.with("wire a=" + deep("!(", 5, "0", ")") + ";");
        Drive.with("wire a=" + deep("(!", 5, "0", ")") + ";");
        Drive.faultyCircuit("wire a=" + deep("!(", 5, "@!0", ")") + ";");
        Drive.faultyCircuit("wire a=" + deep("!(", 5, "@(0)", ")") + ";");
        Drive.faultyCircuit("wire a=" + deep("(!", 5, "@!0", ")") + ";");
        Drive.faultyCircuit("wire a=" + deep("(!", 5, "@(0)", ")") + ";");
        Drive.faultyCircuit("wire a=!" + deep("(", 9, "@(0)", ")") + ";");
        Drive.faultyCircuit("wire a=" + deep("(", 9, "!@!0", ")") + ";");
    }

    private static void depthDoesNotAddUp() {
        String ten = deep("!(", 5, "0", ")");
        Drive.with("wire a=" + ten + "&" + ten + "|" + ten + "^" + ten + ";wire b=" + ten + ";latch c=" + ten + ";");
        Drive.with("wire a=" + deep("(", 9, "(0)&(1)|!0^!1&(0)", ")") + ";");
        Drive.faultyCircuit("wire a=" + deep("(", 9, "(0)&(1)|!0^!@!1", ")") + ";");
    }

    /** "in a circuit at most 300 ATOMS that are no brackets". */
    private static void atMost300Atoms() {
        Drive.with("wire a=" + Drive.repeat("0", "|", 299) + ";");
        Drive.with("wire a=" + Drive.repeat("0", "|", 300) + ";");
        Drive.faultyCircuit("wire a=" + Drive.repeat("0", "|", 300) + "|@0;");
        Drive.with("input b;wire a=" + Drive.repeat("b", "|", 300) + ";");
        Drive.faultyCircuit("input b;wire a=" + Drive.repeat("b", "|", 300) + "|@b;");
        Drive.faultyCircuit("input b;wire a=" + Drive.repeat("b", "|", 300) + "|@c;");
        Drive.faultyCircuit("input b;wire a=" + Drive.repeat("b", "|", 300) + "|!@b;");
    }

    private static void atomsOfAllItemsAddUp() {
        String half = Drive.repeat("0", "&", 150);
        Drive.with("wire a=" + half + ";latch b=" + half + ";");
        Drive.faultyCircuit("wire a=" + half + ";latch b=" + half + "&@0;");
        Drive.faultyCircuit("wire a=" + half + ";latch b=" + half + ";wire c=@a;");
        TrajectoryCheck x = Drive.with("wire a=" + half + ";latch b=" + half + ";");
        Drive.circuit(x, "wire a=" + half + ";latch b=" + half + ";", NONE);
        Drive.circuit(x, "wire a=" + Drive.repeat("0", "|", 301) + ";", 607);
        Drive.circuit(x, "wire a=" + half + ";latch b=" + half + ";", NONE);
    }

    private static void bracketsAreNotCounted() {
        Drive.with("wire a=" + Drive.repeat("(0)", "^", 300) + ";");
        Drive.with("wire a=" + Drive.repeat("((0))", "^", 300) + ";");
        Drive.faultyCircuit("wire a=" + Drive.repeat("(0)", "^", 300) + "^(@0);");
        Drive.with("wire a=" + Drive.repeat("!0", "^", 300) + ";");
        Drive.faultyCircuit("wire a=" + Drive.repeat("!0", "^", 300) + "^!@0;");
    }

    /** "EXPR: XORS { | XORS }; XORS: ANDS { ^ ANDS }; ANDS: NOT { & NOT }; NOT: ! NOT or ATOM". */
    private static void operatorsInTheirOrder() {
        String[] signs = {"|", "^", "&"};
        for (String sign : signs) {
            Drive.with("wire a=0" + sign + "1;");
            Drive.faultyCircuit("wire a=@" + sign + "1;");
            Drive.faultyCircuit("wire a=0" + sign + "@;");
            Drive.faultyCircuit("wire a=0" + sign + "@" + sign + "1;");
            Drive.faultyCircuit("wire a=!@" + sign + "1;");
            Drive.faultyCircuit("wire a=(0" + sign + "@);");
        }
        Drive.faultyCircuit("wire a=0@!1;");
        Drive.faultyCircuit("wire a=0@(1);");
        Drive.faultyCircuit("wire a=(@);");
        Drive.faultyCircuit("wire a=!@;");
        Drive.faultyCircuit("wire a=(0@;");
        Drive.faultyCircuit("wire a=0@);");
    }

    /** "an empty TAPE is a circuit without nodes". */
    private static void emptyTape() {
        TrajectoryCheck x = Drive.with("input a,b;", "given a is A then b is A.");
        Drive.due("an empty tape", x.circuit(), NONE);
        for (int what = 0; what <= 7; what++) {
            Drive.due("count " + what, x.count(what), 0);
        }
        Drive.due("no cone", x.cone(0), NONE);
        Drive.due("no assertion", x.fails(), REFUSED);
        Drive.assertion(x, "given a is A then b is A.", 6);
        Drive.due("cut to none", x.end(0), 0);
        Drive.due("an empty tape again", x.circuit(), NONE);
    }

    /** "there is no assertion then". */
    private static void circuitEndsTheAssertion() {
        TrajectoryCheck x = Drive.with("input a,b;", "given a is A, b is B, b is C then b is A at 2.");
        Drive.circuit(x, "input a,b;", NONE);
        Drive.due("fails", x.fails(), REFUSED);
        Drive.due("excluded", x.excluded(), REFUSED);
        Drive.due("failing", x.failing(0), NONE);
        Drive.due("shortfall", x.shortfall(0, 0), NONE);
        Drive.due("value", x.value(0, 0, 0), NONE);
        Drive.due("matters", x.matters(0, 0, 0), NONE);
        Drive.due("nodes", x.count(0), 2);
        for (int what = 4; what <= 7; what++) {
            Drive.due("count " + what, x.count(what), 0);
        }
    }

    private static final String[] FAULTY = {
        "input q", "wire a=a;", "latch q=nn;", "input q,q;", "input q,r,s;wire t=q?", "input abcdefghi;", "wire q=!!!!!!!!!!!0;"
    };
    private static final int[] FAULTS = {7, 5, 8, 8, 20, 6, 17};

    /** "Its FAULT if it has one: the circuit and the assertion stay". */
    private static void faultLeavesTheCircuit() {
        for (int i = 0; i < FAULTY.length; i++) {
            TrajectoryCheck x = Drive.with("input a;wire b=!a;latch c=b;");
            Drive.circuit(x, FAULTY[i], FAULTS[i]);
            int[] counts = {3, 1, 1, 1, 0, 0, 0, 0};
            for (int what = 0; what < counts.length; what++) {
                Drive.due("count " + what, x.count(what), counts[what]);
            }
            Drive.due("cone of c", x.cone(2), 2);
            Drive.due("no more nodes", x.cone(3), NONE);
            Drive.due("still no assertion", x.fails(), REFUSED);
            Drive.assertion(x, "given q is A then b is A.", 6);
            Drive.assertion(x, "given a is A then b is !A, c is !A at 1.", NONE);
            Drive.due("it works as before", x.fails(), 0);
        }
    }

    private static void faultLeavesTheAssertion() {
        for (int i = 0; i < FAULTY.length; i++) {
            TrajectoryCheck x = Drive.with("input a;wire b=!a;latch c=b;", "given a is A, a is 1 if B then b is B, c is !A at 1.");
            Drive.circuit(x, FAULTY[i], FAULTS[i]);
            // A 0, B 1 is excluded, A 1, B 0 is as it should be.
            Drive.due("fails", x.fails(), 2);
            Drive.due("excluded", x.excluded(), 1);
            Drive.due("failing", x.failing(1), 3);
            Drive.due("the clause", x.shortfall(3, 0), 0);
            Drive.due("value", x.value(2, 1, 2), 0);
            Drive.due("an excluded one", x.value(2, 1, 1), 3);
            Drive.due("matters", x.matters(1, 0, 0), 1);
            Drive.due("variables", x.count(4), 2);
            Drive.due("given", x.count(5), 2);
            Drive.due("behind then", x.count(6), 2);
            Drive.due("last", x.count(7), 1);
        }
    }

    private static void faultOnANewObject() {
        for (int i = 0; i < FAULTY.length; i++) {
            TrajectoryCheck x = new TrajectoryCheck();
            Drive.circuit(x, FAULTY[i], FAULTS[i]);
            Drive.due("no nodes", x.count(0), 0);
            Drive.due("no cone", x.cone(0), NONE);
            Drive.assertion(x, "given q is A then q is A.", 6);
        }
    }

    private static void newCircuitForgetsTheOld() {
        TrajectoryCheck x = Drive.with("input " + FORTY + ";");
        Drive.circuit(x, "wire a=0;", NONE);
        Drive.due("nodes", x.count(0), 1);
        Drive.due("inputs", x.count(1), 0);
        Drive.due("no node behind it", x.cone(1), NONE);
        Drive.circuit(x, "wire a=n0;", 7);
        Drive.circuit(x, "input n0;wire a=n0;", NONE);
        Drive.assertion(x, "given n1 is 1 then a is 1.", 6);
    }

    private static void expressionsAreForgotten() {
        TrajectoryCheck x = Drive.with("latch a=a&b;latch b=a|b;");
        for (int round = 0; round < 3; round++) {
            Drive.circuit(x, "latch a=a&b;latch b=a|b;", NONE);
            Drive.due("a latch", x.cone(0), 2);
        }
        for (int round = 0; round < 3; round++) {
            Drive.circuit(x, "input a,b;", NONE);
            Drive.due("the first input", x.cone(0), 0);
            Drive.due("the second input", x.cone(1), 0);
        }
        Drive.assertion(x, "given a is 1 then b is 1 if 0 at 1.", NONE);
        Drive.due("an input behind time 0", x.value(0, 1, 0), X);
    }

    /** Long texts one behind the other, on one object: each has the room that a first one has. */
    private static void longTextsDoNotAddUp() {
        TrajectoryCheck x = new TrajectoryCheck();
        for (int round = 0; round < 12; round++) {
            Drive.circuit(x, "input a;wire b=" + Drive.repeat("a", "&", 300) + ";", NONE);
            Drive.due("cone", x.cone(1), 1);
        }
        Drive.assertion(x, "given a is A then b is A.", NONE);
        Drive.due("fails", x.fails(), 0);
    }
}
