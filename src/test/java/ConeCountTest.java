/** Promises 12 and 13: cone and count. */
public final class ConeCountTest {
    private static final int NONE = TrajectoryCheck.NONE, REFUSED = TrajectoryCheck.REFUSED;

    public static void main(String[] args) {
        cones();
        longCone();
        counts();
        Drive.finish("ConeCountTest");
    }

    private static void cones() {
        TrajectoryCheck x = Drive.with(
            "input a, b; wire c = a & a; latch d = d; latch e = f | b; wire f = e; wire g = 1; wire h = c & g; latch i = h ^ f;");
        int[] due = {0, 0, 1, 1, 3, 3, 0, 3, 7};
        for (int node = 0; node < due.length; node++) {
            Drive.due("cone of " + node, x.cone(node), due[node]);
        }
        Drive.due("cone of -1", x.cone(-1), NONE);
        Drive.due("cone of 9", x.cone(9), NONE);
        Drive.due("cone of the least", x.cone(Integer.MIN_VALUE), NONE);
        Drive.due("cone of the greatest", x.cone(Integer.MAX_VALUE), NONE);
        Drive.circuit(x, "input a;", NONE);
        Drive.due("cone of an input", x.cone(0), 0);
        Drive.due("no cone of a node that was", x.cone(1), NONE);
    }

    private static void longCone() {
        StringBuilder chain = new StringBuilder();
        StringBuilder ring = new StringBuilder();
        for (int i = 0; i < 40; i++) {
            chain.append(i % 2 == 0 ? "wire" : "latch").append(" n").append(i).append(" = ");
            ring.append("latch n").append(i).append(" = n").append((i + 7) % 40).append(";");
            chain.append(i == 39 ? "0" : "n" + (i + 1)).append(";");
        }
        TrajectoryCheck x = Drive.with(chain.toString());
        TrajectoryCheck y = Drive.with(ring.toString());
        for (int i = 0; i < 40; i++) {
            Drive.due("cone in a chain", x.cone(i), 39 - i);
            Drive.due("cone in a ring", y.cone(i), 40);
        }
    }

    private static void counts() {
        TrajectoryCheck x = Drive.with("input a, b; wire c = a; input d; latch e = c; latch f = e; wire g = 0; wire h = g;");
        countsAre(x, 8, 3, 3, 2, 0, 0, 0, 0);
        Drive.assertion(x, "given a is A at 4 to 7, b is B if C then c is A&D at 5, d is 1, e is B.", NONE);
        countsAre(x, 8, 3, 3, 2, 4, 2, 3, 7);
        Drive.assertion(x, "given a is 1 then d is 1 at 11.", NONE);
        countsAre(x, 8, 3, 3, 2, 0, 1, 1, 11);
        Drive.assertion(x, "given a is A then ?", 18);
        countsAre(x, 8, 3, 3, 2, 0, 1, 1, 11);
        Drive.circuit(x, "latch a = a;", NONE);
        countsAre(x, 1, 0, 0, 1, 0, 0, 0, 0);
        Drive.circuit(x, "", NONE);
        countsAre(x, 0, 0, 0, 0, 0, 0, 0, 0);
    }

    private static void countsAre(TrajectoryCheck x, int... due) {
        for (int what = 0; what < due.length; what++) {
            Drive.due("count " + what, x.count(what), due[what]);
        }
        Drive.due("count 8", x.count(8), REFUSED);
        Drive.due("count -1", x.count(-1), REFUSED);
        Drive.due("count of the least", x.count(Integer.MIN_VALUE), REFUSED);
        Drive.due("count of the greatest", x.count(Integer.MAX_VALUE), REFUSED);
    }
}
