/** Promise 4: circuit, with the tokens, the grammar and the faults of circuits. */
public final class CircuitTest {
    private static final int NONE = TrajectoryCheck.NONE, REFUSED = TrajectoryCheck.REFUSED;

    public static void main(String[] args) {
        good();
        tokens();
        grammar();
        missing();
        names();
        loops();
        depth();
        manyNodes();
        manyAtoms();
        whatStays();
        Drive.finish("CircuitTest");
    }

    private static void good() {
        Drive.with("");
        Drive.with(" \n \n");
        Drive.with("input a;");
        Drive.with("input a,b,c;wire d=a&b|c^!a;latch e=(d);");
        Drive.with("\ninput\na\n,\nb\n;\nwire c = ( a & ! b ) ;");
        Drive.with("wire a = 0; wire b = 1; latch c = !0 ^ 1;");
        Drive.with("wire a = b; input b;");
        Drive.with("latch a = a; latch b = c; latch c = b & a;");
        Drive.with("input inputs, wire1, is_, at0, tot, thens, a_b_c_d_;");
        Drive.with("input abcdefgh, a1234567, a_______;");
    }

    private static void tokens() {
        Drive.faultyCircuit("@?");
        Drive.faultyCircuit("@\tinput a;");
        Drive.faultyCircuit("input a;@\r");
        Drive.faultyCircuit("input a;@\u00e9");
        Drive.faultyCircuit("input a;@\u0000");
        Drive.faultyCircuit("input a;@\u008a");
        Drive.faultyCircuit("input @abcdefghi;");
        Drive.faultyCircuit("input @abcdefghijklmnopq;");
        Drive.faultyCircuit("@inputwires a;");
        Drive.faultyCircuit("@inputa;");
        Drive.faultyCircuit("@Input a;");
        Drive.faultyCircuit("input @_a;");
        Drive.faultyCircuit("input @1a;");
        Drive.faultyCircuit("input a@A;");
        Drive.faultyCircuit("input a@-b;");
        Drive.faultyCircuit("input @ABCDE;");
        Drive.faultyCircuit("wire a = @A;");
        Drive.faultyCircuit("wire a = @00;");
        Drive.faultyCircuit("wire a = @01;");
        Drive.faultyCircuit("wire a = @10;");
        Drive.faultyCircuit("wire a = @2;");
        Drive.faultyCircuit("wire a = @12345;");
        Drive.faultyCircuit("wire a = 1@b;");
        Drive.faultyCircuit("wire a = 0 @1;");
        for (String word : "input wire latch given then is if at to".split(" ")) {
            Drive.faultyCircuit("input a, @" + word + ";");
            Drive.faultyCircuit("wire a = @" + word + ";");
        }
    }

    private static void grammar() {
        Drive.faultyCircuit("@a;");
        Drive.faultyCircuit("@;");
        Drive.faultyCircuit("input a;@;");
        Drive.faultyCircuit("@given a is 1 then a is 1.");
        Drive.faultyCircuit("input @;");
        Drive.faultyCircuit("input a @b;");
        Drive.faultyCircuit("input a, @, b;");
        Drive.faultyCircuit("input a,@;");
        Drive.faultyCircuit("input a@. wire");
        Drive.faultyCircuit("input a @= 1;");
        Drive.faultyCircuit("wire a@;");
        Drive.faultyCircuit("wire a@, b = 1;");
        Drive.faultyCircuit("wire @= 1;");
        Drive.faultyCircuit("wire a = @;");
        Drive.faultyCircuit("wire a = 0 & @& 1;");
        Drive.faultyCircuit("wire a = 0 | @;");
        Drive.faultyCircuit("wire a = @^ 1;");
        Drive.faultyCircuit("wire a = 0 @! 1;");
        Drive.faultyCircuit("wire a = !@;");
        Drive.faultyCircuit("wire a = (@);");
        Drive.faultyCircuit("wire a = (1@;");
        Drive.faultyCircuit("wire a = 1@);");
        Drive.faultyCircuit("wire a = (1)@(0);");
        Drive.faultyCircuit("wire a = 1 @= 0;");
        Drive.faultyCircuit("latch a @b = 0;");
        Drive.faultyCircuit("latch a = 0@, b = 0;");
        // Of two faults the first by its place is told, whichever kind it is of.
        Drive.faultyCircuit("wire @= ?");
        Drive.faultyCircuit("wire @? =");
    }

    private static void missing() {
        Drive.faultyCircuit("input@");
        Drive.faultyCircuit("input  \n @");
        Drive.faultyCircuit("input a@");
        Drive.faultyCircuit("input a,@");
        Drive.faultyCircuit("wire a =@");
        Drive.faultyCircuit("wire a = (1 & !@");
        Drive.faultyCircuit("wire a = (1@");
        Drive.faultyCircuit("wire a = 1@");
        Drive.faultyCircuit("latch a = 1 |   @");
    }

    private static void names() {
        Drive.faultyCircuit("input a, @a;");
        Drive.faultyCircuit("input a; wire @a = 1;");
        Drive.faultyCircuit("latch a = 0; input b, c, @a;");
        Drive.faultyCircuit("wire a = @b;");
        Drive.faultyCircuit("input a; wire b = a & @c & d & c;");
        Drive.faultyCircuit("wire b = a & @c; latch a = x;");
        Drive.faultyCircuit("latch a = @ab; input abc, aba, b;");
        // What is unknown is only told of a text that has no other fault.
        Drive.faultyCircuit("wire a = b; input c @d;");
        Drive.faultyCircuit("wire a = b; input @a;");
        Drive.faultyCircuit("wire a = b; wire@");
    }

    private static void loops() {
        Drive.faultyCircuit("wire @a = a;");
        Drive.faultyCircuit("wire @a = a & 0;");
        Drive.faultyCircuit("wire @a = b; wire b = a;");
        Drive.faultyCircuit("wire c = a; wire @a = b; wire b = d; wire d = a; wire e = c;");
        Drive.faultyCircuit("input i; wire g = h; wire @h = 1 | !(i ^ h);");
        Drive.faultyCircuit("wire x = z; wire @y = y; wire z = 0; wire w = w;");
        // A name that is no node comes before a loop.
        Drive.faultyCircuit("wire a = a; wire b = @c;");
        Drive.with("wire a = b; latch b = a;");
        Drive.with("wire a = b; wire c = a; latch b = c; latch d = d;");
        Drive.with("wire a = b & c; wire b = c & d; wire c = d; wire d = 1;");
    }

    private static void depth() {
        Drive.with("wire a = !!!!!!!!!!0; wire b = ((((((((((1))))))))));");
        Drive.with("wire a = !(!(!(!(!(0))))) & !(!(!(!(!(1)))));");
        Drive.with("wire a = " + Drive.repeat("!(0)", "&", 20) + ";");
        Drive.faultyCircuit("wire a = !!!!!!!!!!@!0;");
        Drive.faultyCircuit("wire a = ((((((((((@(1)))))))))));");
        Drive.faultyCircuit("wire a = !(!(!(!(!(@!0)))));");
        Drive.faultyCircuit("wire a = !(!(!(!(!(0 | @(1))))));");
        Drive.faultyCircuit("wire a = 1 & ((((((((((0 ^ @!1))))))))));");
        Drive.faultyCircuit("wire a = (((((((((!@!1)))))))));");
    }

    private static void manyNodes() {
        StringBuilder forty = new StringBuilder();
        for (int i = 0; i < 40; i++) {
            forty.append(i == 0 ? "" : ", ").append("n").append(i);
        }
        TrajectoryCheck x = Drive.with("input " + forty + ";");
        Drive.due("nodes", x.count(0), 40);
        Drive.faultyCircuit("input " + forty + ", @more;");
        Drive.faultyCircuit("input " + forty + "; wire @more = 0;");
        Drive.faultyCircuit("input " + forty + "; latch @more = 0;");
        Drive.faultyCircuit("input " + forty + "; input @more;");
        Drive.faultyCircuit("input " + forty + ", @;");
        Drive.faultyCircuit("input " + forty + ",@");
        Drive.faultyCircuit("input " + forty + "; @more");
        StringBuilder wires = new StringBuilder();
        for (int i = 0; i < 40; i++) {
            wires.append("wire n").append(i).append("=n").append(i + 1).append(";");
        }
        Drive.faultyCircuit(wires + "input @n40;");
        Drive.faultyCircuit(wires.toString().replace("=n40", "=@n40"));
        Drive.faultyCircuit(wires.toString().replace("n0=", "@n0=").replace("=n40", "=n0"));
    }

    private static void manyAtoms() {
        Drive.with("wire a = " + Drive.repeat("0", "|", 300) + ";");
        Drive.with("wire a = " + Drive.repeat("(0)", "^", 300) + ";");
        Drive.with("input b; wire a = " + Drive.repeat("b", "&", 150) + "; latch c = " + Drive.repeat("b", "&", 150) + ";");
        Drive.faultyCircuit("wire a = " + Drive.repeat("0", "|", 300) + "|@1;");
        Drive.faultyCircuit("wire a = " + Drive.repeat("0", "|", 300) + "; wire b = @1;");
        Drive.faultyCircuit("wire a = " + Drive.repeat("0", "|", 300) + "; wire b = (@a);");
        Drive.faultyCircuit("wire a = " + Drive.repeat("0", "|", 300) + "; wire b = (@;");
        StringBuilder many = new StringBuilder("wire a = @a0");
        for (int i = 1; i < 300; i++) {
            many.append("|a").append(i);
        }
        Drive.faultyCircuit(many + ";");
        Drive.faultyCircuit(many.toString().replace("@", "") + "|@a300;");
    }

    private static void whatStays() {
        TrajectoryCheck x = Drive.with("input a; wire b = !a;", "given a is A then b is A.");
        Drive.circuit(x, "wire a = a;", 5);
        Drive.circuit(x, "input q, r, s, t; latch u = v;", 28);
        Drive.circuit(x, "input q, r, s, t", 16);
        Drive.due("a fault leaves the nodes", x.count(0), 2);
        Drive.due("a fault leaves the cones", x.cone(1), 1);
        Drive.due("a fault leaves the assertion", x.fails(), 2);
        Drive.due("and its trajectories", x.value(1, 0, 1), 0);
        Drive.due("and its shortfalls", x.shortfall(1, 0), 0);
        Drive.circuit(x, "input c;", NONE);
        Drive.due("a circuit ends the assertion", x.fails(), REFUSED);
        Drive.due("the new nodes", x.count(0), 1);
        Drive.due("no clauses", x.count(6), 0);
        Drive.assertion(x, "given a is A then a is A.", 6);
        Drive.assertion(x, "given c is A then c is A.", NONE);
        Drive.due("the new assertion", x.fails(), 0);
        Drive.circuit(x, "", NONE);
        Drive.due("an empty tape is a circuit", x.count(0), 0);
        Drive.due("which ends the assertion", x.excluded(), REFUSED);
        Drive.due("and has no cones", x.cone(0), NONE);
    }
}
