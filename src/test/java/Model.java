import java.util.ArrayList;
import java.util.Arrays;
import java.util.HashSet;
import java.util.LinkedHashMap;
import java.util.LinkedHashSet;
import java.util.List;
import java.util.Map;
import java.util.Set;
import java.util.regex.Matcher;
import java.util.regex.Pattern;

/** The document once more, written another way: trees, one assignment after the other, exceptions for faults. */
final class Model {
    static final int NONE = -2, REFUSED = -1, X = 2, OUT = 3;
    private static final Pattern TOKEN = Pattern.compile("[a-z][a-z0-9_]*|[A-Z][A-Z0-9]*|[0-9]+|[=&|^!();,.]");
    private static final Set<String> WORDS = Set.of("input", "wire", "latch", "given", "then", "is", "if", "at", "to");

    private Map<String, Node> nodes = new LinkedHashMap<>();
    private Claim claim = null;

    private static final class Fault extends RuntimeException {
        private static final long serialVersionUID = 1L;
        final int place;

        Fault(int place) {
            this.place = place;
        }
    }

    private record Token(String text, int place) {
        boolean isName() {
            return Character.isLowerCase(text.charAt(0)) && !WORDS.contains(text);
        }
    }

    /** An operator with its parts, or a leaf without any. */
    private record Tree(String head, int place, List<Tree> parts) {
    }

    private static final class Node {
        String name;
        String kind;
        int place;
        int number;
        Tree tree;
    }

    private record Clause(Node node, Tree is, Tree condition, int from, int to) {
    }

    private static final class Claim {
        final List<String> variables = new ArrayList<>();
        final List<Clause> given = new ArrayList<>();
        final List<Clause> behind = new ArrayList<>();
        final List<int[][]> trajectories = new ArrayList<>();
        int last;
    }

    /** The tokens of a text; behind the last, or where no token begins, an empty one that fits nowhere. */
    private static final class Line {
        private final List<Token> tokens = new ArrayList<>();
        private final boolean clean;
        private int at = 0;
        int depth = 0;
        int atoms = 0;

        Line(String text) {
            int place = 0;
            Matcher matcher = TOKEN.matcher(text);
            boolean good = true;
            while (good && place < text.length()) {
                if (text.charAt(place) == ' ' || text.charAt(place) == '\n') {
                    place++;
                } else {
                    good = matcher.find(place) && matcher.start() == place && fits(matcher.group());
                    if (good) {
                        tokens.add(new Token(matcher.group(), place));
                        place = matcher.end();
                    }
                }
            }
            clean = good;
            tokens.add(new Token(" ", place));
        }

        private static boolean fits(String token) {
            return token.length() <= (Character.isLowerCase(token.charAt(0)) ? 8 : 4);
        }

        Token peek() {
            return tokens.get(at);
        }

        boolean sees(String text) {
            return peek().text.equals(text);
        }

        boolean atEnd() {
            return clean && at == tokens.size() - 1;
        }

        Token next() {
            return tokens.get(at++);
        }

        void expect(String text) {
            check(sees(text));
            at++;
        }

        void check(boolean canStand) {
            if (!canStand) {
                throw new Fault(peek().place);
            }
        }
    }

    int circuit(String text) {
        Map<String, Node> read = new LinkedHashMap<>();
        try {
            Line line = new Line(text);
            while (!line.atEnd()) {
                readItem(line, read);
            }
            for (Node node : read.values()) {
                checkNames(node.tree, read);
            }
            for (Node node : read.values()) {
                if (node.kind.equals("wire") && reached(node, read, true).contains(node.name)) {
                    throw new Fault(node.place);
                }
            }
        } catch (Fault fault) {
            return fault.place;
        }
        nodes = read;
        claim = null;
        return NONE;
    }

    private static void readItem(Line line, Map<String, Node> into) {
        line.check(line.sees("input") || line.sees("wire") || line.sees("latch"));
        String kind = line.next().text;
        Node node = declare(line, into, kind);
        if (kind.equals("input")) {
            while (line.sees(",")) {
                line.next();
                declare(line, into, kind);
            }
        } else {
            line.expect("=");
            node.tree = readTree(line, 0, null);
        }
        line.expect(";");
    }

    private static Node declare(Line line, Map<String, Node> into, String kind) {
        line.check(line.peek().isName() && into.size() < 40 && !into.containsKey(line.peek().text));
        Node node = new Node();
        node.place = line.peek().place;
        node.name = line.next().text;
        node.kind = kind;
        node.number = into.size();
        into.put(node.name, node);
        return node;
    }

    private static Tree readTree(Line line, int level, List<String> variables) {
        if (level == 3) {
            return readNot(line, variables);
        }
        String sign = "|^&".substring(level, level + 1);
        Tree tree = readTree(line, level + 1, variables);
        while (line.sees(sign)) {
            line.next();
            tree = new Tree(sign, 0, List.of(tree, readTree(line, level + 1, variables)));
        }
        return tree;
    }

    private static Tree readNot(Line line, List<String> variables) {
        if (line.sees("!") || line.sees("(")) {
            line.check(line.depth < 10);
            line.depth++;
            boolean not = line.next().text.equals("!");
            Tree tree = not ? new Tree("!", 0, List.of(readNot(line, variables))) : readTree(line, 0, variables);
            if (!not) {
                line.expect(")");
            }
            line.depth--;
            return tree;
        }
        Token token = line.peek();
        boolean constant = token.text.equals("0") || token.text.equals("1");
        boolean symbol = variables == null ? token.isName() : Character.isUpperCase(token.text.charAt(0));
        line.check(line.atoms < 300 && (constant || symbol));
        if (variables != null && symbol && !variables.contains(token.text)) {
            line.check(variables.size() < 9);
            variables.add(token.text);
        }
        line.atoms++;
        line.next();
        return new Tree(token.text, token.place, List.of());
    }

    private static void checkNames(Tree tree, Map<String, Node> known) {
        if (tree == null) {
            return;
        }
        if (Character.isLowerCase(tree.head.charAt(0)) && !known.containsKey(tree.head)) {
            throw new Fault(tree.place);
        }
        for (Tree part : tree.parts) {
            checkNames(part, known);
        }
    }

    private static void collect(Tree tree, Set<String> into) {
        if (tree != null) {
            if (Character.isLowerCase(tree.head.charAt(0))) {
                into.add(tree.head);
            }
            for (Tree part : tree.parts) {
                collect(part, into);
            }
        }
    }

    private static Set<String> reached(Node from, Map<String, Node> known, boolean wiresAlone) {
        Set<String> found = new LinkedHashSet<>();
        List<Node> open = new ArrayList<>(List.of(from));
        while (!open.isEmpty()) {
            Node node = open.remove(open.size() - 1);
            Set<String> names = new HashSet<>();
            collect(node.tree, names);
            for (String name : names) {
                Node next = known.get(name);
                if ((!wiresAlone || next.kind.equals("wire")) && found.add(name)) {
                    open.add(next);
                }
            }
        }
        return found;
    }

    int assertion(String text) {
        Claim read = new Claim();
        try {
            Line line = new Line(text);
            line.expect("given");
            readClauses(line, read, read.given);
            line.expect("then");
            readClauses(line, read, read.behind);
            line.expect(".");
            line.check(line.atEnd());
        } catch (Fault fault) {
            return fault.place;
        }
        claim = read;
        for (int number = 0; number < 1 << read.variables.size(); number++) {
            read.trajectories.add(trajectory(number));
        }
        return NONE;
    }

    private void readClauses(Line line, Claim read, List<Clause> into) {
        boolean more = true;
        while (more) {
            line.check(into.size() < 24 && nodes.containsKey(line.peek().text));
            Node node = nodes.get(line.next().text);
            line.expect("is");
            Tree is = readTree(line, 0, read.variables);
            Tree condition = new Tree("1", 0, List.of());
            if (line.sees("if")) {
                line.next();
                condition = readTree(line, 0, read.variables);
            }
            int from = 0;
            int to = 0;
            if (line.sees("at")) {
                line.next();
                from = readTime(line, 0);
                to = from;
                if (line.sees("to")) {
                    line.next();
                    to = readTime(line, from);
                }
            }
            read.last = Math.max(read.last, to);
            into.add(new Clause(node, is, condition, from, to));
            more = line.sees(",");
            if (more) {
                line.next();
            }
        }
    }

    private static int readTime(Line line, int least) {
        line.check(Character.isDigit(line.peek().text.charAt(0)));
        int time = Integer.parseInt(line.peek().text);
        line.check(time >= least && time <= 11);
        line.next();
        return time;
    }

    /** Values by time and node; null if the assignment is excluded. */
    private int[][] trajectory(int number) {
        int[][] values = new int[claim.last + 1][nodes.size()];
        for (int[] row : values) {
            Arrays.fill(row, -1);
        }
        boolean excluded = false;
        for (int time = 0; time <= claim.last; time++) {
            for (Node node : nodes.values()) {
                excluded |= settle(node, time, number, values);
            }
        }
        return excluded ? null : values;
    }

    /** Whether what is given goes against the node or itself. */
    private boolean settle(Node node, int time, int number, int[][] values) {
        if (values[time][node.number] >= 0) {
            return false;
        }
        boolean clash = false;
        int natural = X;
        if (node.kind.equals("wire")) {
            Set<String> direct = new HashSet<>();
            collect(node.tree, direct);
            for (String name : direct) {
                clash |= settle(nodes.get(name), time, number, values);
            }
            natural = work(node.tree, values[time], number);
        } else if (node.kind.equals("latch") && time > 0) {
            natural = work(node.tree, values[time - 1], number);
        }
        Set<Integer> said = new HashSet<>();
        for (Clause clause : claim.given) {
            if (clause.node == node && clause.from <= time && time <= clause.to && work(clause.condition, null, number) == 1) {
                said.add(work(clause.is, null, number));
            }
        }
        clash |= said.size() > 1 || said.size() == 1 && natural != X && !said.contains(natural);
        values[time][node.number] = natural == X && !said.isEmpty() ? said.iterator().next() : natural;
        return clash;
    }

    private int work(Tree tree, int[] row, int number) {
        int left = tree.parts.isEmpty() ? X : work(tree.parts.get(0), row, number);
        int right = tree.parts.size() < 2 ? X : work(tree.parts.get(1), row, number);
        switch (tree.head) {
            case "0":
                return 0;
            case "1":
                return 1;
            case "!":
                return left == X ? X : 1 - left;
            case "&":
                return left == 0 || right == 0 ? 0 : left == 1 && right == 1 ? 1 : X;
            case "|":
                return left == 1 || right == 1 ? 1 : left == 0 && right == 0 ? 0 : X;
            case "^":
                return left == X || right == X ? X : left == right ? 0 : 1;
            default:
                int v = claim.variables.indexOf(tree.head);
                return v < 0 ? row[nodes.get(tree.head).number] : number >> claim.variables.size() - 1 - v & 1;
        }
    }

    private boolean has(int number) {
        return claim != null && number >= 0 && number < claim.trajectories.size();
    }

    int shortfall(int number, int what) {
        if (what < 0 || what > 1) {
            return REFUSED;
        }
        int[][] values = has(number) ? claim.trajectories.get(number) : null;
        for (int i = 0; values != null && i < claim.behind.size(); i++) {
            Clause clause = claim.behind.get(i);
            for (int time = clause.from; time <= clause.to; time++) {
                boolean says = work(clause.condition, null, number) == 1;
                if (says && work(clause.is, null, number) != values[time][clause.node.number]) {
                    return what == 0 ? i : time;
                }
            }
        }
        return NONE;
    }

    List<Integer> failing() {
        List<Integer> all = new ArrayList<>();
        for (int number = 0; has(number); number++) {
            if (shortfall(number, 0) != NONE) {
                all.add(number);
            }
        }
        return all;
    }

    int fails() {
        return claim == null ? REFUSED : failing().size();
    }

    int excluded() {
        int all = 0;
        for (int number = 0; has(number); number++) {
            all += claim.trajectories.get(number) == null ? 1 : 0;
        }
        return claim == null ? REFUSED : all;
    }

    int value(int node, int time, int number) {
        if (!has(number) || node < 0 || node >= nodes.size() || time < 0 || time > claim.last) {
            return NONE;
        }
        int[][] values = claim.trajectories.get(number);
        return values == null ? OUT : values[time][node];
    }

    int matters(int node, int time, int v) {
        if (value(node, time, 0) == NONE || v < 0 || v >= claim.variables.size()) {
            return NONE;
        }
        for (int number = 0; has(number); number++) {
            int other = value(node, time, number ^ 1 << claim.variables.size() - 1 - v);
            int own = value(node, time, number);
            if (own != OUT && other != OUT && own != other) {
                return 1;
            }
        }
        return 0;
    }

    int cone(int node) {
        for (Node one : nodes.values()) {
            if (one.number == node) {
                return reached(one, nodes, false).size();
            }
        }
        return NONE;
    }

    int count(int what) {
        String[] kinds = {"", "input", "wire", "latch"};
        if (what < 0 || what > 7) {
            return REFUSED;
        }
        if (what == 0) {
            return nodes.size();
        }
        if (what <= 3) {
            return (int) nodes.values().stream().filter(node -> node.kind.equals(kinds[what])).count();
        }
        if (claim == null) {
            return 0;
        }
        int[] counts = {claim.variables.size(), claim.given.size(), claim.behind.size(), claim.last};
        return counts[what - 4];
    }
}
