/** The edges of an object's life and of THE TAPE, with promises 2 and 3: a test for each sentence. */
public final class EdgeTapeTest {
    private static final int FULL = TrajectoryCheck.FULL, REFUSED = TrajectoryCheck.REFUSED, NONE = TrajectoryCheck.NONE;
    private static final int BLANKS = 0x20202020;

    public static void main(String[] args) {
        usedFor512Calls();
        usedFor512CallsOfOneKind();
        laterCallsStillEnd();
        noneAtFirst();
        atMost2000();
        fullLeavesTheTape();
        wholeTapeCounts();
        fiveTimesFourHighestFirst();
        everyIntIsFourBytes();
        callsThatReadEmpty();
        callsThatDoNotReadLeave();
        cutToItsFirst();
        cutToAsManyAsItHas();
        cutToNone();
        refusedIfItHasLess();
        refusedBelowNone();
        refusedLeavesTheTape();
        cutBytesAreGone();
        Drive.finish("EdgeTapeTest");
    }

    private static int feedBlanks(TrajectoryCheck x) {
        return x.feed(BLANKS, BLANKS, BLANKS, BLANKS, BLANKS);
    }

    /** "An object is used for at most 512 calls after it has been made": up to the 512th all answers are due. */
    private static void usedFor512Calls() {
        TrajectoryCheck x = new TrajectoryCheck();
        Drive.due("call 1", x.feed(0x696e7075, 0x7420613b, 0x77697265, 0x20623d21, 0x613b2020), 20);
        Drive.due("call 2", x.circuit(), NONE);
        for (int call = 3; call <= 512; call++) {
            Drive.due("call " + call, step(x, (call - 3) % 12), dueOfStep((call - 3) % 12));
        }
    }

    /** The assertion is "given a is A if B then b is !A if C." */
    private static int step(TrajectoryCheck x, int number) {
        switch (number) {
            case 0:
                return x.feed(0x67697665, 0x6e206120, 0x69732041, 0x20696620, 0x42207468);
            case 1:
                return x.feed(0x656e2062, 0x20697320, 0x21412069, 0x6620432e, 0x41414141);
            case 2:
                return x.end(36);
            case 3:
                return x.assertion();
            case 4:
                return x.fails();
            case 5:
                return x.excluded();
            case 6:
                return x.failing(1);
            case 7:
                return x.shortfall(5, 0);
            case 8:
                return x.value(1, 0, 7);
            case 9:
                return x.matters(1, 0, 1);
            case 10:
                return x.cone(1);
            default:
                return x.count(4);
        }
    }

    private static int dueOfStep(int number) {
        int[] due = {20, 40, 36, NONE, 2, 0, 5, 0, 0, 1, 1, 3};
        return due[number];
    }

    private static void usedFor512CallsOfOneKind() {
        TrajectoryCheck fed = new TrajectoryCheck();
        TrajectoryCheck read = new TrajectoryCheck();
        TrajectoryCheck asked = new TrajectoryCheck();
        for (int call = 1; call <= 512; call++) {
            Drive.due("feed " + call, feedBlanks(fed), call <= 100 ? 20 * call : FULL);
            Drive.due("circuit " + call, read.circuit(), NONE);
            Drive.due("assertion " + call, asked.assertion(), 0);
        }
    }

    /** What they answer is free, but none may throw. */
    private static void laterCallsStillEnd() {
        TrajectoryCheck x = new TrajectoryCheck();
        x.feed(0x696e7075, 0x7420613b, 0x77697265, 0x20623d21, 0x613b2020);
        x.circuit();
        for (int call = 3; call <= 5000; call++) {
            step(x, call % 12);
        }
    }

    /** "THE TAPE has bytes, none at first". */
    private static void noneAtFirst() {
        Drive.due("all of none", new TrajectoryCheck().end(0), 0);
        Drive.due("one of none", new TrajectoryCheck().end(1), REFUSED);
        Drive.due("the first twenty", feedBlanks(new TrajectoryCheck()), 20);
        Drive.due("no text is a circuit", new TrajectoryCheck().circuit(), NONE);
        Drive.due("no text misses its first word", new TrajectoryCheck().assertion(), 0);
    }

    /** "at most 2000"; "FULL if it would have more than 2000". */
    private static void atMost2000() {
        for (int size = 1960; size <= 2000; size++) {
            TrajectoryCheck x = full();
            Drive.due("cut to " + size, x.end(size), size);
            Drive.due("twenty more than " + size, feedBlanks(x), size <= 1980 ? size + 20 : FULL);
        }
    }

    private static TrajectoryCheck full() {
        TrajectoryCheck x = new TrajectoryCheck();
        for (int i = 1; i <= 100; i++) {
            Drive.due("feed " + i, feedBlanks(x), 20 * i);
        }
        return x;
    }

    private static void fullLeavesTheTape() {
        TrajectoryCheck x = full();
        Drive.due("cut", x.end(1985), 1985);
        Drive.due("too much", x.feed(-1, -1, -1, -1, -1), FULL);
        Drive.due("no byte came", x.end(1986), REFUSED);
        Drive.due("all are there", x.end(1985), 1985);
        Drive.due("too much again", x.feed(-1, -1, -1, -1, -1), FULL);
        Drive.due("and they are blanks", x.circuit(), NONE);
    }

    private static void wholeTapeCounts() {
        Drive.circuit(new TrajectoryCheck(), Drive.repeat(" ", "", 1999) + "?", 1999);
        Drive.circuit(new TrajectoryCheck(), Drive.repeat("\n", "", 1995) + "input", 2000);
        Drive.circuit(new TrajectoryCheck(), Drive.repeat(" ", "", 1992) + "input a;", NONE);
    }

    /** "Twenty bytes, five times four, the highest of each first": a byte that begins no token at each place. */
    private static void fiveTimesFourHighestFirst() {
        for (int place = 0; place < 20; place++) {
            int[] words = {BLANKS, BLANKS, BLANKS, BLANKS, BLANKS};
            words[place / 4] ^= 0xdf << 24 - 8 * (place % 4);
            TrajectoryCheck x = new TrajectoryCheck();
            Drive.due("feed", x.feed(words[0], words[1], words[2], words[3], words[4]), 20);
            Drive.due("the byte at " + place, x.circuit(), place);
            Drive.due("twenty blanks", feedBlanks(x), 20);
            Drive.due("feed behind them", x.feed(words[0], words[1], words[2], words[3], words[4]), 40);
            Drive.due("the byte at " + (20 + place), x.circuit(), 20 + place);
        }
    }

    /** The least int is bytes 128, 0, 0, 0; the greatest 127, 255, 255, 255; -1 is four of 255. */
    private static void everyIntIsFourBytes() {
        int[] edges = {Integer.MIN_VALUE, Integer.MAX_VALUE, -1, 0};
        for (int edge : edges) {
            TrajectoryCheck x = new TrajectoryCheck();
            Drive.due("feed " + edge, x.feed(edge, edge, edge, edge, edge), 20);
            Drive.due("it begins no token", x.circuit(), 0);
            Drive.due("feed behind blanks " + edge, x.feed(BLANKS, BLANKS, BLANKS, BLANKS, edge), 20);
            Drive.due("nor there", x.circuit(), 16);
        }
        TrajectoryCheck x = new TrajectoryCheck();
        Drive.due("low bytes of a high int", x.feed(0xff696e70, 0x75742061, 0x3b202020, BLANKS, BLANKS), 20);
        Drive.due("its highest byte comes first", x.circuit(), 0);
    }

    /** "calls that read it empty it", whatever they answer. */
    private static void callsThatReadEmpty() {
        TrajectoryCheck x = new TrajectoryCheck();
        Drive.circuit(x, "input a;", NONE);
        emptyIs(x, "a circuit");
        Drive.circuit(x, "input a", 7);
        emptyIs(x, "a fault of a circuit");
        Drive.assertion(x, "given a is 1 then a is 1.", NONE);
        emptyIs(x, "an assertion");
        Drive.assertion(x, "given a is 1 then a is 1", 24);
        emptyIs(x, "a fault of an assertion");
        Drive.due("an empty text does not hold the one before", x.assertion(), 0);
        Drive.due("nor does an empty circuit", x.circuit(), NONE);
        Drive.due("nodes", x.count(0), 0);
    }

    private static void emptyIs(TrajectoryCheck x, String behind) {
        Drive.due("one byte behind " + behind, x.end(1), REFUSED);
        Drive.due("no byte behind " + behind, x.end(0), 0);
        Drive.due("feed behind " + behind, feedBlanks(x), 20);
        Drive.due("end behind " + behind, x.end(0), 0);
    }

    private static void callsThatDoNotReadLeave() {
        TrajectoryCheck x = Drive.with("input a;", "given a is A then a is B.");
        Drive.put(x, "input b, c;", 0);
        x.fails();
        x.excluded();
        x.failing(0);
        x.shortfall(1, 0);
        x.value(0, 0, 0);
        x.matters(0, 0, 0);
        x.cone(0);
        x.count(0);
        Drive.due("no more", x.end(12), REFUSED);
        Drive.due("no less", x.end(11), 11);
        Drive.due("the text is there", x.circuit(), NONE);
        Drive.due("its nodes", x.count(0), 2);
    }

    /** "The TAPE is cut to its first n bytes: n". */
    private static void cutToItsFirst() {
        TrajectoryCheck x = new TrajectoryCheck();
        Drive.put(x, "input a;input b;", 0);
        Drive.due("cut", x.end(8), 8);
        Drive.due("its first are a circuit", x.circuit(), NONE);
        Drive.due("of one node", x.count(0), 1);
        Drive.assertion(x, "given a is 1 then a is 1.", NONE);
    }

    private static void cutToAsManyAsItHas() {
        TrajectoryCheck x = full();
        Drive.due("all of 2000", x.end(2000), 2000);
        Drive.due("nothing is lost", x.end(2000), 2000);
        Drive.due("more", x.end(2001), REFUSED);
    }

    private static void cutToNone() {
        TrajectoryCheck x = full();
        Drive.due("none of 2000", x.end(0), 0);
        Drive.due("none again", x.end(0), 0);
        Drive.due("one of none", x.end(1), REFUSED);
        Drive.due("there is room again", feedBlanks(x), 20);
    }

    /** "REFUSED if it has less". */
    private static void refusedIfItHasLess() {
        for (int size = 0; size <= 2000; size += 20) {
            TrajectoryCheck x = full();
            Drive.due("cut to " + size, x.end(size), size);
            Drive.due("one more than " + size, x.end(size + 1), REFUSED);
            Drive.due("the greatest int", x.end(Integer.MAX_VALUE), REFUSED);
            Drive.due("as many as " + size, x.end(size), size);
        }
    }

    /** "or n is below 0". */
    private static void refusedBelowNone() {
        int[] below = {-1, -2, -20, -2000, Integer.MIN_VALUE + 1, Integer.MIN_VALUE};
        for (int n : below) {
            Drive.due("end " + n + " of none", new TrajectoryCheck().end(n), REFUSED);
            Drive.due("end " + n + " of 2000", full().end(n), REFUSED);
        }
    }

    private static void refusedLeavesTheTape() {
        TrajectoryCheck x = new TrajectoryCheck();
        Drive.put(x, "input a;", 0);
        for (int n : Drive.outside(9)) {
            Drive.due("end " + n, x.end(n), REFUSED);
        }
        Drive.due("all are there", x.end(8), 8);
        Drive.due("as they were", x.circuit(), NONE);
        Drive.due("a node", x.count(0), 1);
    }

    private static void cutBytesAreGone() {
        TrajectoryCheck x = new TrajectoryCheck();
        Drive.put(x, "input a????????????????????????", 0);
        Drive.due("cut", x.end(7), 7);
        Drive.put(x, ";input b;", 7);
        Drive.due("the new ones stand behind the cut", x.circuit(), NONE);
        Drive.due("nodes", x.count(0), 2);
    }
}
