/** All promises: texts made by a fixed seed, whole and broken, answered as the slow model answers. */
public final class ModelTest {
    private static final String[] VARIABLES = {"A", "B", "C", "D", "E1", "FFFF", "G", "H", "Z99", "J"};
    private static final String[] SPOILS = {
        "", " ", "=", "&", "|", "^", "!", "(", ")", ";", ",", ".", "a", "n1", "A", "0", "1", "2", "00", "12", "99999",
        "input", "wire", "latch", "given", "then", "is", "if", "at", "to", "abcdefghi", "?", "\t", "\u00e4", "\n", "n0 ", "!!!!!"
    };
    private static final int EVERYTHING = Integer.MAX_VALUE;
    private static long seed = 20261115;

    public static void main(String[] args) {
        for (int round = 0; round < 400; round++) {
            play();
        }
        Drive.finish("ModelTest");
    }

    private static int below(int bound) {
        seed = seed * 6364136223846793005L + 1442695040888963407L;
        return (int) ((seed >>> 33) % bound);
    }

    private static void play() {
        Story story = new Story();
        int variables = 1 + below(below(4) == 0 ? 10 : 5);
        for (int texts = 0; texts < 6; texts++) {
            int size = 1 + below(12);
            if (texts == 0 || below(4) == 0) {
                story.circuit(spoil(circuitText(size), below(2) == 0 ? 0 : 1 + below(2)));
            }
            int nodes = Math.max(1, story.model().count(0));
            story.assertion(spoil(assertionText(nodes, variables), below(3) == 0 ? 1 : 0));
            story.compare(EVERYTHING);
        }
    }

    private static String spoil(String text, int times) {
        StringBuilder spoiled = new StringBuilder(text);
        for (int i = 0; i < times; i++) {
            int at = below(spoiled.length() + 1);
            int gone = Math.min(below(3), spoiled.length() - at);
            spoiled.replace(at, at + gone, SPOILS[below(SPOILS.length)]);
        }
        return spoiled.substring(0, Math.min(spoiled.length(), 2000));
    }

    private static String circuitText(int size) {
        StringBuilder text = new StringBuilder();
        // Mostly wires lean on what comes before them, read from a random end, so that few of them run in loops.
        boolean rising = below(2) == 0;
        for (int i = 0; i < size; i++) {
            int kind = below(4);
            if (kind == 0) {
                text.append("input n").append(i).append(";\n");
            } else {
                boolean wire = kind < 3;
                int least = !wire || rising ? 0 : i + 1;
                int most = !wire || !rising ? size : i;
                text.append(wire ? "wire n" : "latch n").append(i).append(" = ");
                text.append(expression(below(4), below(30) == 0 ? 0 : least, most, null)).append("; ");
            }
        }
        return text.toString();
    }

    private static String expression(int depth, int least, int most, String[] symbols) {
        int kind = below(depth > 0 ? 8 : 2);
        if (kind < 2) {
            boolean constant = least >= most || below(8) == 0;
            int symbol = constant ? 0 : least + below(most - least);
            return constant ? String.valueOf(below(2)) : symbols == null ? "n" + symbol : symbols[symbol];
        }
        if (kind == 2) {
            return "!" + expression(depth - 1, least, most, symbols);
        }
        if (kind == 3) {
            return "(" + expression(depth - 1, least, most, symbols) + ")";
        }
        String[] signs = {" & ", "|", " ^ ", "&"};
        return expression(depth - 1, least, most, symbols) + signs[kind - 4] + expression(depth - 1, least, most, symbols);
    }

    private static String assertionText(int nodes, int variables) {
        return "given " + clauses(1 + below(5), nodes, variables) + " then " + clauses(1 + below(4), nodes, variables) + ".";
    }

    private static String clauses(int size, int nodes, int variables) {
        StringBuilder text = new StringBuilder();
        for (int i = 0; i < size; i++) {
            text.append(i == 0 ? "n" : ", n").append(below(nodes)).append(" is ");
            text.append(expression(below(4), 0, variables, VARIABLES));
            if (below(3) == 0) {
                text.append(" if ").append(expression(below(3), 0, variables, VARIABLES));
            }
            if (below(3) != 0) {
                int from = below(5);
                text.append(" at ").append(from).append(below(2) == 0 ? " to " + (from + below(4)) : "");
            }
        }
        return text.toString();
    }
}
