import java.nio.charset.StandardCharsets;

/** What the tests share: texts are fed as bytes, and every answer is compared with the one that is due. */
final class Drive {
    private static int wrong = 0;

    private Drive() {
    }

    static void due(String what, int got, int want) {
        if (got != want) {
            wrong++;
            System.out.println(what + " answered " + got + ", due is " + want);
        }
    }

    /** How many answers were not as due until now. */
    static int wrong() {
        return wrong;
    }

    static void finish(String test) {
        System.out.println(test + ": " + (wrong == 0 ? "all answers are as due" : wrong + " answers are not as due"));
        if (wrong != 0) {
            System.exit(1);
        }
    }

    /** Puts the text on the tape behind what is there already. */
    static void put(TrajectoryCheck x, String text, int before) {
        byte[] bytes = text.getBytes(StandardCharsets.ISO_8859_1);
        for (int i = 0; i < bytes.length; i += 20) {
            x.feed(four(bytes, i), four(bytes, i + 4), four(bytes, i + 8), four(bytes, i + 12), four(bytes, i + 16));
        }
        due("end behind " + show(text), x.end(before + bytes.length), before + bytes.length);
    }

    static void circuit(TrajectoryCheck x, String text, int want) {
        put(x, text, 0);
        due("circuit " + show(text), x.circuit(), want);
    }

    static void assertion(TrajectoryCheck x, String text, int want) {
        put(x, text, 0);
        due("assertion " + show(text), x.assertion(), want);
    }

    /** The text with a mark where the fault is due: the mark itself is not fed. */
    static void faultyCircuit(String marked) {
        TrajectoryCheck x = new TrajectoryCheck();
        circuit(x, marked.replace("@", ""), marked.indexOf('@'));
        due("nodes behind a fault", x.count(0), 0);
    }

    static void faultyAssertion(TrajectoryCheck x, String marked) {
        assertion(x, marked.replace("@", ""), marked.indexOf('@'));
    }

    static TrajectoryCheck with(String circuit) {
        TrajectoryCheck x = new TrajectoryCheck();
        circuit(x, circuit, TrajectoryCheck.NONE);
        return x;
    }

    static TrajectoryCheck with(String circuit, String assertion) {
        TrajectoryCheck x = with(circuit);
        assertion(x, assertion, TrajectoryCheck.NONE);
        return x;
    }

    /** Numbers below 0 and from the first that is too large up, the ends of int and what wraps around among them. */
    static int[] outside(int first) {
        return new int[] {
            Integer.MIN_VALUE, Integer.MIN_VALUE + 1, -512, -64, -32, -3, -2, -1, first, first + 1, first + 32, first + 64,
            first + 512, 1 << 16, 1 << 30, Integer.MAX_VALUE - 1, Integer.MAX_VALUE
        };
    }

    /** Other symbols than each other: prefix0, prefix1, .. */
    static String list(String prefix, String between, int size) {
        StringBuilder all = new StringBuilder();
        for (int i = 0; i < size; i++) {
            all.append(i == 0 ? "" : between).append(prefix).append(i);
        }
        return all.toString();
    }

    static String repeat(String part, String between, int times) {
        StringBuilder all = new StringBuilder();
        for (int i = 0; i < times; i++) {
            all.append(i == 0 ? "" : between).append(part);
        }
        return all.toString();
    }

    private static int four(byte[] bytes, int at) {
        int word = 0;
        for (int i = at; i < at + 4; i++) {
            word = word << 8 | (i < bytes.length ? bytes[i] & 255 : 0);
        }
        return word;
    }

    private static String show(String text) {
        return "'" + (text.length() > 120 ? text.substring(0, 120) + ".." : text).replace("\n", "\\n") + "'";
    }
}
