/** The places that the sentence on FAULT lists, one by one, and which of them comes first. */
public final class EdgeFaultTest {
    /** Items with a fault each that is seen where it stands. */
    private static final String[] ITEMS = {
        "input @;", "wire w1 @1;", "latch l1=0@,l2=0;", "@is", "input d1,@d1;", "input e1@?;", "input f1@\t;", "input @abcdefghi;",
        "wire g1=@2;", "wire h1=@01;", "wire i1=@12345;", "wire j1=@J;", "wire k1=!!!!!!!!!!@!0;", "wire m1=(0@;", "wire n1=0@);"
    };
    /** Clauses with a fault each. */
    private static final String[] CLAUSES = {
        "@1", "a @1", "a is @then", "a is A @B", "@d is 1", "a is 1 at @12", "a is 1 at 2 to @1", "a is @ABCDE", "a is 1@?", "a is@\t1",
        "@abcdefghi is 1", "a is @2", "a is @a", "a is 1 at @00000", "a is !!!!!!!!!!@!1", "a is (1 @if 1", "a is 1@)"
    };

    public static void main(String[] args) {
        tokenThatCanNotStand();
        tooMuch();
        tooGreat();
        unknownInAnAssertion();
        declaredAlready();
        byteThatBeginsNoToken();
        tooLong();
        theEndOfACircuit();
        theEndOfAnAssertion();
        firstNameThatIsNoNode();
        firstWireThatDependsOnItself();
        byWiresAlone();
        byWayOfOthers();
        theFirstOfTwoInACircuit();
        theFirstOfTwoInAnAssertion();
        unknownNamesComeBehind();
        loopsComeLast();
        everyCutMissesSomething();
        everyTokenInEveryPlace();
        whatFollowsDoesNotHideAFault();
        Drive.finish("EdgeFaultTest");
    }

    private static void bad(String marked) {
        Drive.faultyAssertion(Drive.with("input a,b;"), marked);
    }

    private static String unmarked(String text) {
        return text.replace("@", "");
    }

    /** "the place of the first token that can not stand there": where blanks stand before it, behind them. */
    private static void tokenThatCanNotStand() {
        Drive.faultyCircuit("@= a;");
        Drive.faultyCircuit(" \n @= a;");
        Drive.faultyCircuit("input a \n @= 1;");
        Drive.faultyCircuit("input a @= = =;");
        bad(" \n @a is 1");
        bad("given a  @A then b is 1.");
        for (String item : ITEMS) {
            Drive.faultyCircuit(item);
            Drive.faultyCircuit("input z1,z2;\n" + item);
        }
        for (String clause : CLAUSES) {
            bad("given " + clause + " then b is 1.");
            bad("given b is 1, " + clause + " then b is 1.");
            bad("given b is 1 then " + clause + ".");
        }
    }

    /** "for one that is too much .. its own". */
    private static void tooMuch() {
        Drive.faultyCircuit("input " + Drive.list("n", " , ", 40) + " , @n40 ;");
        Drive.faultyCircuit("wire w = " + Drive.repeat("0", " & ", 300) + " & @1 ;");
        Drive.faultyCircuit("wire w = ! ! ! ! ! ! ! ! ! ! @! 1 ;");
        Drive.faultyCircuit("wire w = ( ( ( ( ( ( ( ( ( ( @( 1 ;");
        bad("given " + Drive.repeat("a is 1", " , ", 24) + " , @a is 1 then b is 1.");
        bad("given a is 1 then " + Drive.repeat("a is 1", " , ", 24) + " , @b is 1.");
        bad("given a is " + Drive.list("A", " & ", 9) + " & @B then b is 1.");
        bad("given a is " + Drive.repeat("A", " & ", 300) + " & @A then b is 1.");
        bad("given a is ! ! ! ! ! ! ! ! ! ! @! 1 then b is 1.");
    }

    /** "too great". */
    private static void tooGreat() {
        bad("given a is 1 at  @12 then b is 1.");
        bad("given a is 1 at 0 to  @12 then b is 1.");
        bad("given a is 1 at  @12");
        bad("given a is @2 then b is 1.");
        Drive.faultyCircuit("wire a = 0 &  @2 ;");
        Drive.faultyCircuit("wire a = 0 &  @9999 ;");
    }

    /** "unknown in an assertion". */
    private static void unknownInAnAssertion() {
        bad("given  @c is 1 then b is 1.");
        bad("given a is 1 then  @c is 1.");
        bad("given  @c ?");
        bad("given  @c");
        bad("given a is 1, @c is 1, d is 1 then b is 1.");
    }

    /** "or declared already: its own", not that of the first, nor that of the item. */
    private static void declaredAlready() {
        Drive.faultyCircuit("input a , b ,  @a , b ;");
        Drive.faultyCircuit("input a ; wire  @a = 0 ;");
        Drive.faultyCircuit("input a ; wire @a");
        Drive.faultyCircuit("input a ; wire @a = ?");
    }

    /** "or of the first byte that begins no token": wherever it stands. */
    private static void byteThatBeginsNoToken() {
        String circuit = "input a;wire b=!a;";
        String assertion = "given a is A then b is A.";
        int[] gapsOfCircuit = {0, 5, 7, 8, 12, 14, 15, 16, 17, 18};
        int[] gapsOfAssertion = {0, 5, 7, 10, 12, 17, 19, 22, 24, 25};
        String others = "\t\u0000\r\u000b\u001f\"#$%'*+-/:<>?[\\]_`{}~\u007f\u0080\u00a0\u00e4\u00ff";
        for (char other : others.toCharArray()) {
            for (int place : gapsOfCircuit) {
                Drive.faultyCircuit(placed(circuit, place, other));
            }
            for (int place : gapsOfAssertion) {
                bad(placed(assertion, place, other));
            }
        }
    }

    /** Blanks keep the byte from what stands before it, since _ could belong to that. */
    private static String placed(String text, int place, char other) {
        return text.substring(0, place) + " @" + other + text.substring(place);
    }

    /** "of what is too long its first". */
    private static void tooLong() {
        Drive.faultyCircuit("input  @abcdefghi ;");
        Drive.faultyCircuit("@abcdefghi a;");
        Drive.faultyCircuit("input a @abcdefghi");
        Drive.faultyCircuit("wire a =  @00000 ;");
        Drive.faultyCircuit("wire a =  @ABCDE ;");
        bad("given a is  @ABCDE then b is 1.");
        bad("given a is 1 at  @00001 then b is 1.");
        bad("given  @abcdefghi is 1 then b is 1.");
        bad("given a is 1 then b is 1. @abcdefghi");
        bad("given a is 1 then b is 1. @ABCDE");
        bad("given a is 1 then b is 1. @12345");
    }

    /** "or of the end if something is missing": blanks at the end belong to the text. */
    private static void theEndOfACircuit() {
        String[] starts = {"input", "input a", "input a,", "wire", "wire a", "wire a=", "latch a=0", "wire a=!", "wire a=(", "wire a=(0", "wire a=0&"};
        for (String start : starts) {
            Drive.faultyCircuit(start + "@");
            Drive.faultyCircuit(start + " @");
            Drive.faultyCircuit(start + "\n \n@");
            Drive.faultyCircuit("input z; " + start + "@");
        }
    }

    private static void theEndOfAnAssertion() {
        String[] starts = {
            "", "given", "given a", "given a is", "given a is A", "given a is A&", "given a is !", "given a is (A", "given a is A if",
            "given a is A if B", "given a is A at", "given a is A at 1", "given a is A at 1 to", "given a is A at 1 to 2", "given a is A,",
            "given a is A then", "given a is A then b", "given a is A then b is", "given a is A then b is 1", "given a is A then b is 1,"
        };
        for (String start : starts) {
            bad(start + "@");
            bad(start + " @");
            bad(start + "\n \n@");
        }
    }

    /** "the place of the first name that is no node": by place, wherever the nodes are declared. */
    private static void firstNameThatIsNoNode() {
        Drive.faultyCircuit("wire a=@x;");
        Drive.faultyCircuit("wire a=@x&y;");
        Drive.faultyCircuit("wire a=b&@x&b&x;input b;");
        Drive.faultyCircuit("latch b=@y;wire a=x;");
        Drive.faultyCircuit("wire a=0;latch c=!(a^@aa);input ab;");
        Drive.faultyCircuit("input x1;wire a=x1&@x;wire b=y;");
    }

    /** "else that, where it is declared, of the first wire, by numbers, that depends on itself". */
    private static void firstWireThatDependsOnItself() {
        Drive.faultyCircuit("wire  @a=a;");
        Drive.faultyCircuit("input b;wire c=b;wire @a=c&a;wire d=d;");
        Drive.faultyCircuit("wire c=a;wire @a=b;wire b=a;");
        Drive.faultyCircuit("wire @z=y;wire y=z;wire a=a;");
        Drive.faultyCircuit("wire c=c0;wire c0=d;wire @d=!d;");
        Drive.faultyCircuit("wire @a=0&a;");
    }

    /** "by wires alone". */
    private static void byWiresAlone() {
        Drive.with("latch a=a;");
        Drive.with("wire a=b;latch b=a;");
        Drive.with("wire a=b&c;latch b=a;latch c=a;");
        Drive.with("latch a=b;latch b=a;");
        Drive.faultyCircuit("wire @a=b&c;latch b=a;wire c=a;");
        Drive.faultyCircuit("latch b=a;wire @a=a&b;");
    }

    /** "by way of others, too". */
    private static void byWayOfOthers() {
        Drive.faultyCircuit("wire @a=b;wire b=c;wire c=a;");
        StringBuilder ring = new StringBuilder();
        for (int i = 0; i < 40; i++) {
            ring.append(i == 0 ? "wire @n" : "wire n").append(i).append("=n").append((i + 39) % 40).append(";");
        }
        Drive.faultyCircuit(ring.toString());
        Drive.with(unmarked(ring.toString()).replace("wire n17", "latch n17"));
        Drive.with(unmarked(ring.toString()).replace("=n16;", "=1;"));
    }

    private static void theFirstOfTwoInACircuit() {
        for (String first : ITEMS) {
            for (String second : ITEMS) {
                Drive.faultyCircuit(first + " " + unmarked(second));
            }
            Drive.faultyCircuit("input y1;" + first + " wire");
        }
    }

    private static void theFirstOfTwoInAnAssertion() {
        for (String first : CLAUSES) {
            for (String second : CLAUSES) {
                bad("given " + first + ", " + unmarked(second) + " then b is 1.");
                bad("given " + first + " then " + unmarked(second) + ".");
            }
            bad("given " + first);
            bad("given b is 1 then b is 1, " + first);
        }
    }

    /** "of a circuit, if there is none of these": a name that is no node waits for the end of the text. */
    private static void unknownNamesComeBehind() {
        for (String item : ITEMS) {
            Drive.faultyCircuit("wire u=x;" + item);
        }
        Drive.faultyCircuit("wire u=x;wire@");
        Drive.faultyCircuit("wire u=x@");
        Drive.faultyCircuit("wire u=x;input " + Drive.list("n", ",", 39) + ",@more;");
        Drive.faultyCircuit("wire u=x&" + Drive.repeat("0", "&", 299) + "&@0;");
        Drive.faultyCircuit("wire u=@x;input " + Drive.list("n", ",", 39) + ";");
    }

    private static void loopsComeLast() {
        for (String item : ITEMS) {
            Drive.faultyCircuit("wire u=u;" + item);
        }
        Drive.faultyCircuit("wire u=u;wire v=@x;");
        Drive.faultyCircuit("wire v=@x;wire u=u;");
        Drive.faultyCircuit("wire u=u&@x;");
        Drive.faultyCircuit("wire u=u;wire@");
    }

    /** A whole text that is cut anywhere: where its end or its last token can not stand, the slow model tells. */
    private static void everyCutMissesSomething() {
        String circuit = "input a, b;\nwire ab = !(a & b) ^ 1;\nlatch c = ab | c;";
        for (int size = 0; size <= circuit.length(); size++) {
            circuitAsModel(circuit.substring(0, size));
        }
        String assertion = "given a is A if !B at 0 to 1, b is (A ^ B) then a is A | 0 at 01.";
        for (int size = 0; size <= assertion.length(); size++) {
            assertionAsModel(assertion.substring(0, size));
        }
    }

    private static void circuitAsModel(String text) {
        Drive.circuit(new TrajectoryCheck(), text, new Model().circuit(text));
    }

    private static void assertionAsModel(String text) {
        Model model = new Model();
        model.circuit("input a,b;");
        Drive.assertion(Drive.with("input a,b;"), text, model.assertion(text));
    }

    /** Every token in the place of every token, with what stands behind it and without. */
    private static void everyTokenInEveryPlace() {
        String[] others = ("input wire latch given then is if at to a b z A B 0 1 11 12 01 = & | ^ ! ( ) ; , . ? abcdefghi ABCDE 00000").split(" ");
        String[] circuit = "input a , b ; wire ab = ! ( a & b ) ^ 1 | a ; latch c = ab ;".split(" ");
        String[] assertion = "given a is A if ! B at 0 to 1 , b is ( A ^ B ) , b is 1 then a is A | 0 & B if 1 at 01 , b is 1 .".split(" ");
        for (String other : others) {
            for (int place = 0; place < circuit.length; place++) {
                circuitAsModel(joined(circuit, place, other, circuit.length));
                circuitAsModel(joined(circuit, place, other, place + 1));
                circuitAsModel(joined(circuit, place, other + " " + circuit[place], circuit.length));
            }
            for (int place = 0; place < assertion.length; place++) {
                assertionAsModel(joined(assertion, place, other, assertion.length));
                assertionAsModel(joined(assertion, place, other, place + 1));
                assertionAsModel(joined(assertion, place, other + " " + assertion[place], assertion.length));
            }
        }
    }

    /** The first tokens up to an end, with another one in one place. */
    private static String joined(String[] tokens, int place, String other, int end) {
        StringBuilder text = new StringBuilder();
        for (int i = 0; i < end; i++) {
            text.append(i == 0 ? "" : " ").append(i == place ? other : tokens[i]);
        }
        return text.toString();
    }

    /** What stands behind a place where something is due, if that can stand behind the whole part. */
    private static void whatFollowsDoesNotHideAFault() {
        String[] starts = {
            "given", "given a", "given a is", "given a is !", "given a is (", "given a is (A", "given a is A &", "given a is A if",
            "given a is A if !", "given a is A at", "given a is A if B at", "given a is A at 1 to"
        };
        for (String start : starts) {
            bad(start + " @then b is 1.");
            bad(start + " @, b is 1 then b is 1.");
            bad(start.replace("given", "given b is 1 then") + " @.");
            bad(start.replace("given", "given b is 1 then") + " @, b is 1.");
        }
        String[] items = {"input", "input a,", "wire", "wire a", "wire a=", "wire a=!", "wire a=(", "wire a=(0", "latch a=0&", "latch a=0|"};
        for (String item : items) {
            Drive.faultyCircuit(item + " @;");
            Drive.faultyCircuit(item + " @; input b;");
            Drive.faultyCircuit(item + " @wire b=0;");
        }
    }
}
