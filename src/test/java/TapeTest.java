/** Promises 2 and 3: feed and end. */
public final class TapeTest {
    private static final int FULL = TrajectoryCheck.FULL, REFUSED = TrajectoryCheck.REFUSED, NONE = TrajectoryCheck.NONE;

    public static void main(String[] args) {
        order();
        room();
        cut();
        readingEmpties();
        Drive.finish("TapeTest");
    }

    private static void order() {
        TrajectoryCheck x = new TrajectoryCheck();
        // "inpu" "t a," "b;  " "    " " \n  "
        Drive.due("feed", x.feed(0x696e7075, 0x7420612c, 0x623b2020, 0x20202020, 0x200a2020), 20);
        Drive.due("twenty bytes, the highest first", x.circuit(), NONE);
        Drive.due("its nodes", x.count(0), 2);
        Drive.due("feed", x.feed(0x20202020, 0x20202020, 0x20202020, 0x20202020, 0x2020ff20), 20);
        Drive.due("the eighteenth byte from 0", x.circuit(), 18);
    }

    private static void room() {
        TrajectoryCheck x = new TrajectoryCheck();
        for (int i = 1; i <= 100; i++) {
            Drive.due("feed " + i, x.feed(0, 0, 0, 0, 0), 20 * i);
        }
        Drive.due("feed of a full tape", x.feed(0, 0, 0, 0, 0), FULL);
        Drive.due("end of a full tape", x.end(2000), 2000);
        Drive.due("cut by one", x.end(1999), 1999);
        Drive.due("no room for twenty", x.feed(0, 0, 0, 0, 0), FULL);
        Drive.due("FULL changes nothing", x.end(2000), REFUSED);
        Drive.due("cut to 1981", x.end(1981), 1981);
        Drive.due("2001 would be too many", x.feed(0, 0, 0, 0, 0), FULL);
        Drive.due("cut to 1980", x.end(1980), 1980);
        Drive.due("2000 are not", x.feed(0, 0, 0, 0, 0), 2000);
        wholeTapeIsRead();
    }

    private static void wholeTapeIsRead() {
        TrajectoryCheck x = new TrajectoryCheck();
        Drive.circuit(x, Drive.repeat(" ", "", 1991) + "input a;\n", NONE);
        Drive.due("a node at the end of a full tape", x.count(1), 1);
        Drive.circuit(x, Drive.repeat(" ", "", 1992) + "input a,", 2000);
    }

    private static void cut() {
        TrajectoryCheck x = new TrajectoryCheck();
        Drive.due("feed", x.feed(1, 2, 3, 4, 5), 20);
        Drive.due("end beyond", x.end(21), REFUSED);
        Drive.due("end below 0", x.end(-1), REFUSED);
        Drive.due("end of the least number", x.end(Integer.MIN_VALUE), REFUSED);
        Drive.due("end of the greatest number", x.end(Integer.MAX_VALUE), REFUSED);
        Drive.due("end as long as it is", x.end(20), 20);
        Drive.due("end 7", x.end(7), 7);
        Drive.due("end 8 then", x.end(8), REFUSED);
        Drive.due("feed behind the cut", x.feed(0, 0, 0, 0, 0), 27);
        Drive.due("end 0", x.end(0), 0);
        Drive.put(x, "input ab", 0);
        Drive.due("cut in a name", x.end(7), 7);
        Drive.put(x, "c;", 7);
        Drive.due("joined behind the cut", x.circuit(), NONE);
        Drive.assertion(x, "given ac is 1 then ac is 1.", NONE);
    }

    private static void readingEmpties() {
        TrajectoryCheck x = new TrajectoryCheck();
        Drive.circuit(x, "input a;", NONE);
        Drive.due("empty behind a circuit", x.end(1), REFUSED);
        Drive.circuit(x, "input ?", 6);
        Drive.due("empty behind a fault of a circuit", x.end(1), REFUSED);
        Drive.assertion(x, "given a is 1 then a is 1.", NONE);
        Drive.due("empty behind an assertion", x.end(1), REFUSED);
        Drive.assertion(x, "given ?", 6);
        Drive.due("empty behind a fault of an assertion", x.end(1), REFUSED);
        Drive.put(x, "input b;", 0);
        Drive.due("other calls leave the tape: fails", x.fails(), 0);
        Drive.due("other calls leave the tape: count", x.count(0), 1);
        Drive.due("it is still there", x.end(8), 8);
    }
}
