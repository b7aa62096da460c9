/**
 * Checks a circuit of gates and latches against an assertion, for all assignments of its variables at once.
 *
 * All assignments are worked on in words of 64, one bit each; a signal has two such words, the assignments
 * under which it is known to be 1 and those under which it is known to be 0 (in neither, it is X).
 */
public final class TrajectoryCheck {
    public static final int REFUSED = -1, NONE = -2, FULL = -3;

    private static final int MAX_BYTES = 2000, FEED_BYTES = 20;
    private static final int MAX_NODES = 40, MAX_ATOMS = 300, MAX_DEPTH = 10;
    private static final int MAX_CLAUSES = 24, MAX_VARIABLES = 9, TIMES = 12;
    private static final int MAX_NAME = 8, MAX_VARIABLE = 4, MAX_NUMBER = 4;

    private static final int WORD_BITS = 64, WORD_SHIFT = 6, MAX_WORDS = 8;

    /** Kinds of tokens; a sign's kind is its byte, so all others lie above the bytes. */
    private static final int END = 256, BAD = 257, NAME = 258, VARIABLE = 259, NUMBER = 260;
    private static final int INPUT = 261, WIRE = 262, LATCH = 263, GIVEN = 264, THEN = 265;
    private static final int IS = 266, IF = 267, AT = 268, TO = 269;

    /** The bytes of input, wire, latch, given, then, is, if, at and to, packed as Tape packs a token's. */
    private static final long[] WORDS = {
        0x696e707574L, 0x77697265L, 0x6c61746368L, 0x676976656eL, 0x7468656eL, 0x6973L, 0x6966L, 0x6174L, 0x746fL
    };
    private static final String SIGNS = "=&|^!();,.";

    /** Steps of an expression's code; a step from 0 up is the symbol whose value is taken. */
    private static final int ZERO = -1, ONE = -2, NOT = -3, AND = -4, XOR = -5, OR = -6, NO_STEP = -7;

    /** The two-sided operators, those that bind least first. */
    private static final char[] LEVEL_SIGNS = {'|', '^', '&'};
    private static final int[] LEVEL_STEPS = {OR, XOR, AND};

    /** Of the 64 assignments of a word, those whose number has bit 0, bit 1, .. bit 5. */
    private static final long[] BIT_PATTERNS = {
        0xAAAAAAAAAAAAAAAAL, 0xCCCCCCCCCCCCCCCCL, 0xF0F0F0F0F0F0F0F0L,
        0xFF00FF00FF00FF00L, 0xFFFF0000FFFF0000L, 0xFFFFFFFF00000000L
    };

    private static final int VALUE_X = 2, VALUE_RULED_OUT = 3;

    private final Tape tape = new Tape();
    private final Symbols mentions = new Symbols(MAX_ATOMS);
    private final Rows rows = new Rows();
    /** A text is read into the spare one, so that a fault in it leaves what stands as it is. */
    private Circuit present = new Circuit();
    private Circuit spare = new Circuit();
    private Assertion claim = new Assertion();
    private Assertion spareClaim = new Assertion();
    /** What came of the assertion; null while there is none. */
    private Check check = null;

    public TrajectoryCheck() {
    }

    public int feed(int a, int b, int c, int d, int e) {
        if (tape.size > MAX_BYTES - FEED_BYTES) {
            return FULL;
        }
        tape.addFour(a);
        tape.addFour(b);
        tape.addFour(c);
        tape.addFour(d);
        tape.addFour(e);
        return tape.size;
    }

    public int end(int n) {
        if (n < 0 || n > tape.size) {
            return REFUSED;
        }
        tape.size = n;
        return n;
    }

    public int circuit() {
        int fault = new Reader(tape, spare.code, NAME, mentions).readCircuit(spare);
        tape.size = 0;
        if (fault != NONE) {
            return fault;
        }
        Circuit old = present;
        present = spare;
        spare = old;
        check = null;
        return NONE;
    }

    public int assertion() {
        int fault = new Reader(tape, spareClaim.code, VARIABLE, spareClaim.variables).readAssertion(present, spareClaim);
        tape.size = 0;
        if (fault != NONE) {
            return fault;
        }
        Assertion old = claim;
        claim = spareClaim;
        spareClaim = old;
        check = new Check(present, claim, rows);
        check.checkAll();
        return NONE;
    }

    public int fails() {
        return check == null ? REFUSED : check.total(check.broken);
    }

    public int excluded() {
        return check == null ? REFUSED : check.total(check.ruledOut);
    }

    public int failing(int k) {
        return check == null ? NONE : check.brokenByRank(k);
    }

    public int shortfall(int assignment, int what) {
        if (what != 0 && what != 1) {
            return REFUSED;
        }
        if (check == null || !check.hasAssignment(assignment)) {
            return NONE;
        }
        return check.firstMiss(assignment, what == 0);
    }

    public int value(int node, int time, int assignment) {
        if (check == null || !check.hasMoment(node, time) || !check.hasAssignment(assignment)) {
            return NONE;
        }
        return check.valueAt(node, time, assignment);
    }

    public int matters(int node, int time, int v) {
        if (check == null || !check.hasMoment(node, time) || v < 0 || v >= claim.variables.size) {
            return NONE;
        }
        return check.dependsOnVariable(node, time, v) ? 1 : 0;
    }

    public int cone(int node) {
        return present.hasNode(node) ? Long.bitCount(present.reach[node]) : NONE;
    }

    public int count(int what) {
        switch (what) {
            case 0:
                return present.nodes.size;
            case 1:
                return present.nodesOfKind(INPUT);
            case 2:
                return present.nodesOfKind(WIRE);
            case 3:
                return present.nodesOfKind(LATCH);
            case 4:
                return check == null ? 0 : claim.variables.size;
            case 5:
                return check == null ? 0 : claim.given.size;
            case 6:
                return check == null ? 0 : claim.behind.size;
            case 7:
                return check == null ? 0 : claim.last;
            default:
                return REFUSED;
        }
    }

    /** The bytes that were fed, and while they are read, the token that comes next. */
    private static final class Tape {
        private final byte[] bytes = new byte[MAX_BYTES];
        int size = 0;
        int kind = END;
        int place = 0;
        /** The token's bytes in one number: no name has more than eight, so equal numbers are equal names. */
        long letters = 0;
        private int next = 0;

        void addFour(int four) {
            for (int shift = 24; shift >= 0 && size < MAX_BYTES; shift -= 8) {
                bytes[size] = (byte) (four >> shift);
                size++;
            }
        }

        void startReading() {
            next = 0;
            advance();
        }

        void advance() {
            while (next < size && (bytes[next] == ' ' || bytes[next] == '\n')) {
                next++;
            }
            place = next;
            int first = next < size ? bytes[next] & 255 : END;
            if (first == END) {
                kind = END;
            } else if (first >= 'a' && first <= 'z') {
                takeRun(NAME, MAX_NAME);
                tellWords();
            } else if (first >= 'A' && first <= 'Z') {
                takeRun(VARIABLE, MAX_VARIABLE);
            } else if (first >= '0' && first <= '9') {
                takeRun(NUMBER, MAX_NUMBER);
            } else {
                kind = SIGNS.indexOf((char) first) >= 0 ? first : BAD;
                next++;
            }
        }

        private void takeRun(int runKind, int most) {
            letters = 0;
            for (; next < size; next++) {
                int b = bytes[next];
                boolean small = b >= 'a' && b <= 'z' || b == '_';
                boolean capital = b >= 'A' && b <= 'Z';
                boolean digit = b >= '0' && b <= '9';
                if (!(digit || small && runKind == NAME || capital && runKind == VARIABLE)) {
                    break;
                }
                letters = letters << 8 | b;
            }
            kind = next - place > most ? BAD : runKind;
        }

        private void tellWords() {
            for (int i = 0; i < WORDS.length && kind == NAME; i++) {
                if (letters == WORDS[i]) {
                    kind = INPUT + i;
                }
            }
        }

        int number() {
            int number = 0;
            for (int shift = 24; shift >= 0; shift -= 8) {
                int digit = (int) (letters >> shift) & 255;
                number = digit == 0 ? 0 : number * 10 + digit - '0';
            }
            return number;
        }
    }

    /** Names in the order in which they came first, and where that was. */
    private static final class Symbols {
        final long[] names;
        final int[] places;
        int size = 0;

        Symbols(int most) {
            names = new long[most];
            places = new int[most];
        }

        int find(long name) {
            for (int i = 0; i < size; i++) {
                if (names[i] == name) {
                    return i;
                }
            }
            return -1;
        }

        boolean isFull() {
            return size == names.length;
        }

        void add(long name, int place) {
            if (size < names.length) {
                names[size] = name;
                places[size] = place;
                size++;
            }
        }
    }

    /** Expressions, one behind the other, operands before their operators. */
    private static final class Code {
        /** Each step stems from a token of its own, so there are never more than bytes. */
        final int[] steps = new int[MAX_BYTES];
        int size = 0;

        void add(int step) {
            if (size < steps.length) {
                steps[size] = step;
                size++;
            }
        }
    }

    /** The nodes and what they are made of. */
    private static final class Circuit {
        final Symbols nodes = new Symbols(MAX_NODES);
        final int[] kinds = new int[MAX_NODES];
        final Code code = new Code();
        final int[] codeStart = new int[MAX_NODES];
        final int[] codeEnd = new int[MAX_NODES];
        /** The nodes that a node depends on, a bit each: by whatever way, and by wires alone. */
        final long[] reach = new long[MAX_NODES];
        final long[] wireReach = new long[MAX_NODES];
        /** The nodes, each wire behind what it is made of. */
        final int[] order = new int[MAX_NODES];

        boolean hasNode(int node) {
            return node >= 0 && node < nodes.size;
        }

        int nodesOfKind(int kind) {
            int found = 0;
            for (int i = 0; i < nodes.size; i++) {
                if (kinds[i] == kind) {
                    found++;
                }
            }
            return found;
        }

        /** Names may be used before they are declared, so all that hangs on their nodes waits for the end of the text. */
        int settle(Symbols mentions) {
            for (int i = 0; i < mentions.size; i++) {
                if (nodes.find(mentions.names[i]) < 0) {
                    return mentions.places[i];
                }
            }
            putNodesForMentions(mentions);
            findReach();
            for (int i = 0; i < nodes.size; i++) {
                if ((wireReach[i] >>> i & 1) != 0) {
                    return nodes.places[i];
                }
            }
            findOrder();
            return NONE;
        }

        private void putNodesForMentions(Symbols mentions) {
            for (int i = 0; i < code.size; i++) {
                int step = code.steps[i];
                if (step >= 0 && step < mentions.size) {
                    code.steps[i] = nodes.find(mentions.names[step]);
                }
            }
        }

        private void findReach() {
            long wires = 0;
            for (int i = 0; i < nodes.size; i++) {
                reach[i] = nodesInCode(i);
                if (kinds[i] == WIRE) {
                    wires |= 1L << i;
                }
            }
            for (int i = 0; i < nodes.size; i++) {
                wireReach[i] = kinds[i] == WIRE ? reach[i] & wires : 0;
            }
            close(reach);
            close(wireReach);
        }

        private long nodesInCode(int node) {
            long found = 0;
            for (int i = codeStart[node]; i < codeEnd[node]; i++) {
                if (code.steps[i] >= 0) {
                    found |= 1L << code.steps[i];
                }
            }
            return found;
        }

        private void close(long[] reached) {
            for (int way = 0; way < nodes.size; way++) {
                for (int i = 0; i < nodes.size; i++) {
                    if ((reached[i] >>> way & 1) != 0) {
                        reached[i] |= reached[way];
                    }
                }
            }
        }

        private void findOrder() {
            int placed = 0;
            for (int rank = 0; rank <= nodes.size; rank++) {
                for (int i = 0; i < nodes.size; i++) {
                    if (rankOf(i) == rank && placed < MAX_NODES) {
                        order[placed] = i;
                        placed++;
                    }
                }
            }
        }

        /** A wire reaches all that its own wires reach and these too, so it reaches more wires than each of them. */
        private int rankOf(int node) {
            return kinds[node] == WIRE ? 1 + Long.bitCount(wireReach[node]) : 0;
        }
    }

    /** What is said of a node: is stands in the code from start to middle, if from there to finish. */
    private static final class Clause {
        int node = 0;
        int start = 0;
        int middle = 0;
        int finish = 0;
        int from = 0;
        int to = 0;
    }

    private static final class Clauses {
        final Clause[] rows = new Clause[MAX_CLAUSES];
        int size = 0;

        Clauses() {
            for (int i = 0; i < MAX_CLAUSES; i++) {
                rows[i] = new Clause();
            }
        }

        int lastTime() {
            int last = 0;
            for (int i = 0; i < size; i++) {
                last = Math.max(last, rows[i].to);
            }
            return last;
        }
    }

    private static final class Assertion {
        final Symbols variables = new Symbols(MAX_VARIABLES);
        final Code code = new Code();
        final Clauses given = new Clauses();
        final Clauses behind = new Clauses();
        int last = 0;
    }

    /**
     * Reads the texts. What reads a part answers whether it could; if not, the tape has stopped at the token
     * that can not stand there, whose place is the fault.
     */
    private static final class Reader {
        private final Tape tape;
        private final Code code;
        /** What the atoms of an expression may be: tokens of this kind, numbered by these symbols. */
        private final int atomKind;
        private final Symbols symbols;
        private int atoms = 0;

        Reader(Tape tape, Code code, int atomKind, Symbols symbols) {
            this.tape = tape;
            this.code = code;
            this.atomKind = atomKind;
            this.symbols = symbols;
        }

        int readCircuit(Circuit into) {
            into.nodes.size = 0;
            startText();
            // Every item declares a node, so none can stand behind MAX_NODES of them.
            for (int i = 0; i <= MAX_NODES && tape.kind != END; i++) {
                if (!readItem(into)) {
                    return tape.place;
                }
            }
            return into.settle(symbols);
        }

        int readAssertion(Circuit circuit, Assertion into) {
            into.given.size = 0;
            into.behind.size = 0;
            startText();
            boolean whole = take(GIVEN) && readClauses(into.given, circuit)
                && take(THEN) && readClauses(into.behind, circuit)
                && take('.') && tape.kind == END;
            into.last = Math.max(into.given.lastTime(), into.behind.lastTime());
            return whole ? NONE : tape.place;
        }

        private void startText() {
            code.size = 0;
            symbols.size = 0;
            tape.startReading();
        }

        private boolean take(int kind) {
            if (tape.kind != kind) {
                return false;
            }
            tape.advance();
            return true;
        }

        private boolean readItem(Circuit into) {
            int kind = tape.kind;
            if (kind == INPUT) {
                return readInputs(into);
            }
            if (kind != WIRE && kind != LATCH) {
                return false;
            }
            tape.advance();
            if (!declare(into, kind) || !take('=') || !readLevel(0, 0)) {
                return false;
            }
            into.codeEnd[into.nodes.size - 1] = code.size;
            return take(';');
        }

        private boolean readInputs(Circuit into) {
            for (int i = 0; i <= MAX_NODES; i++) {
                tape.advance();
                if (!declare(into, INPUT)) {
                    return false;
                }
                if (tape.kind != ',') {
                    return take(';');
                }
            }
            return false;
        }

        private boolean declare(Circuit into, int kind) {
            Symbols nodes = into.nodes;
            if (tape.kind != NAME || nodes.isFull() || nodes.find(tape.letters) >= 0) {
                return false;
            }
            into.kinds[nodes.size] = kind;
            into.codeStart[nodes.size] = code.size;
            into.codeEnd[nodes.size] = code.size;
            nodes.add(tape.letters, tape.place);
            tape.advance();
            return true;
        }

        private boolean readClauses(Clauses into, Circuit circuit) {
            for (int i = 0; i < MAX_CLAUSES; i++) {
                if (!readClause(into.rows[i], circuit)) {
                    return false;
                }
                into.size = i + 1;
                if (!take(',')) {
                    return true;
                }
            }
            return false;
        }

        private boolean readClause(Clause into, Circuit circuit) {
            into.node = tape.kind == NAME ? circuit.nodes.find(tape.letters) : -1;
            if (into.node < 0) {
                return false;
            }
            tape.advance();
            into.start = code.size;
            if (!take(IS) || !readLevel(0, 0)) {
                return false;
            }
            into.middle = code.size;
            if (take(IF) && !readLevel(0, 0)) {
                return false;
            }
            into.finish = code.size;
            return readTimes(into);
        }

        private boolean readTimes(Clause into) {
            into.from = 0;
            into.to = 0;
            if (!take(AT)) {
                return true;
            }
            if (!isTimeFrom(0)) {
                return false;
            }
            into.from = tape.number();
            into.to = into.from;
            tape.advance();
            if (!take(TO)) {
                return true;
            }
            if (!isTimeFrom(into.from)) {
                return false;
            }
            into.to = tape.number();
            tape.advance();
            return true;
        }

        private boolean isTimeFrom(int least) {
            return tape.kind == NUMBER && tape.number() >= least && tape.number() < TIMES;
        }

        private boolean readLevel(int level, int depth) {
            if (level >= LEVEL_SIGNS.length) {
                return readOperand(depth);
            }
            if (!readLevel(level + 1, depth)) {
                return false;
            }
            for (int i = 0; i < MAX_BYTES && tape.kind == LEVEL_SIGNS[level]; i++) {
                tape.advance();
                if (!readLevel(level + 1, depth)) {
                    return false;
                }
                code.add(LEVEL_STEPS[level]);
            }
            return true;
        }

        private boolean readOperand(int depth) {
            int sign = tape.kind;
            if (sign == '!' || sign == '(') {
                return depth < MAX_DEPTH && readNested(sign, depth + 1);
            }
            int step = atomStep();
            if (step == NO_STEP || atoms == MAX_ATOMS) {
                return false;
            }
            atoms++;
            code.add(step);
            tape.advance();
            return true;
        }

        private boolean readNested(int sign, int depth) {
            tape.advance();
            if (sign == '(') {
                return readLevel(0, depth) && take(')');
            }
            boolean whole = readOperand(depth);
            code.add(NOT);
            return whole;
        }

        private int atomStep() {
            if (tape.kind == NUMBER) {
                return tape.letters == '0' ? ZERO : tape.letters == '1' ? ONE : NO_STEP;
            }
            if (tape.kind != atomKind) {
                return NO_STEP;
            }
            int found = symbols.find(tape.letters);
            if (found >= 0) {
                return found;
            }
            if (symbols.isFull()) {
                return NO_STEP;
            }
            symbols.add(tape.letters, tape.place);
            return symbols.size - 1;
        }
    }

    /** Signals under the 64 assignments of a word: where they are known to be 1, and to be 0. */
    private static final class Signals {
        final long[] ones;
        final long[] zeros;

        Signals(int size) {
            ones = new long[size];
            zeros = new long[size];
        }
    }

    /** Works out expressions; the answer of the last one stands in one and zero. */
    private static final class Evaluator {
        long one = 0;
        long zero = 0;
        /** Only atoms add to the stack, so it never outgrows their number. */
        private final Signals stack = new Signals(MAX_ATOMS);
        private int top = 0;

        void run(Code code, int start, int finish, Signals atoms, int base) {
            top = 0;
            for (int i = start; i < finish; i++) {
                int step = code.steps[i];
                if (step >= 0) {
                    push(atoms.ones[base + step], atoms.zeros[base + step]);
                } else if (step == ZERO) {
                    push(0, -1);
                } else if (step == ONE) {
                    push(-1, 0);
                } else if (step == NOT) {
                    pop();
                    push(zero, one);
                } else {
                    join(step);
                }
            }
            pop();
        }

        private void push(long ones, long zeros) {
            if (top < MAX_ATOMS) {
                stack.ones[top] = ones;
                stack.zeros[top] = zeros;
                top++;
            }
        }

        private void pop() {
            if (top > 0) {
                top--;
                one = stack.ones[top];
                zero = stack.zeros[top];
            }
        }

        private void join(int step) {
            pop();
            long rightOne = one;
            long rightZero = zero;
            pop();
            if (step == AND) {
                push(one & rightOne, zero | rightZero);
            } else if (step == OR) {
                push(one | rightOne, zero & rightZero);
            } else {
                push(one & rightZero | zero & rightOne, one & rightOne | zero & rightZero);
            }
        }
    }

    /** The room that a check needs; one does for all, since a check ends when the next one begins. */
    private static final class Rows {
        final Signals trajectory = new Signals(MAX_WORDS * TIMES * MAX_NODES);
        final Signals variables = new Signals(MAX_VARIABLES);
        final Signals said = new Signals(MAX_CLAUSES);
        final long[] ruledOut = new long[MAX_WORDS];
        final long[] broken = new long[MAX_WORDS];
        final Evaluator evaluator = new Evaluator();
    }

    /** The trajectories of all assignments, and what came of them. */
    private static final class Check {
        final long[] ruledOut;
        final long[] broken;
        private final Signals trajectory;
        private final Signals variables;
        /** What the clauses of one part say under the assignments of one word. */
        private final Signals said;
        private final Evaluator evaluator;
        private final Circuit circuit;
        private final Assertion claim;
        private final int assignments;
        private final int words;

        Check(Circuit circuit, Assertion claim, Rows rows) {
            this.circuit = circuit;
            this.claim = claim;
            ruledOut = rows.ruledOut;
            broken = rows.broken;
            trajectory = rows.trajectory;
            variables = rows.variables;
            said = rows.said;
            evaluator = rows.evaluator;
            assignments = 1 << claim.variables.size;
            words = (assignments + WORD_BITS - 1) / WORD_BITS;
        }

        void checkAll() {
            for (int word = 0; word < words; word++) {
                checkWord(word);
            }
        }

        private void checkWord(int word) {
            // With fewer than six variables a word has bits that stand for no assignment.
            long used = assignments < WORD_BITS ? (1L << assignments) - 1 : -1;
            setVariables(word);
            listen(claim.given);
            ruledOut[word] = 0;
            for (int time = 0; time <= claim.last; time++) {
                for (int i = 0; i < circuit.nodes.size; i++) {
                    setNode(circuit.order[i], time, word);
                }
            }
            ruledOut[word] &= used;
            listen(claim.behind);
            broken[word] = missesInWord(word) & used & ~ruledOut[word];
        }

        private void setVariables(int word) {
            int size = claim.variables.size;
            for (int v = 0; v < size; v++) {
                int bit = size - 1 - v;
                long ones = bit < WORD_SHIFT ? BIT_PATTERNS[bit] : -(word >> bit - WORD_SHIFT & 1);
                variables.ones[v] = ones;
                variables.zeros[v] = ~ones;
            }
        }

        private void listen(Clauses part) {
            for (int i = 0; i < part.size; i++) {
                Clause clause = part.rows[i];
                long applies = -1;
                if (clause.finish > clause.middle) {
                    evaluator.run(claim.code, clause.middle, clause.finish, variables, 0);
                    applies = evaluator.one;
                }
                evaluator.run(claim.code, clause.start, clause.middle, variables, 0);
                said.ones[i] = evaluator.one & applies;
                said.zeros[i] = evaluator.zero & applies;
            }
        }

        private void setNode(int node, int time, int word) {
            int at = rowOf(time, word) + node;
            int kind = circuit.kinds[node];
            if (kind == INPUT || kind == LATCH && time == 0) {
                trajectory.ones[at] = 0;
                trajectory.zeros[at] = 0;
            } else {
                int row = rowOf(kind == LATCH ? time - 1 : time, word);
                evaluator.run(circuit.code, circuit.codeStart[node], circuit.codeEnd[node], trajectory, row);
                trajectory.ones[at] = evaluator.one;
                trajectory.zeros[at] = evaluator.zero;
            }
            for (int i = 0; i < claim.given.size; i++) {
                Clause clause = claim.given.rows[i];
                if (clause.node == node && clause.from <= time && time <= clause.to) {
                    give(i, at, word);
                }
            }
        }

        private void give(int clause, int at, int word) {
            long ones = trajectory.ones[at] | said.ones[clause];
            long zeros = trajectory.zeros[at] | said.zeros[clause];
            ruledOut[word] |= ones & zeros;
            trajectory.ones[at] = ones;
            trajectory.zeros[at] = zeros;
        }

        private long missesInWord(int word) {
            long missed = 0;
            for (int i = 0; i < claim.behind.size; i++) {
                Clause clause = claim.behind.rows[i];
                for (int time = clause.from; time <= clause.to; time++) {
                    missed |= misses(i, time, word);
                }
            }
            return missed;
        }

        private long misses(int clause, int time, int word) {
            int at = rowOf(time, word) + claim.behind.rows[clause].node;
            return said.ones[clause] & ~trajectory.ones[at] | said.zeros[clause] & ~trajectory.zeros[at];
        }

        private int rowOf(int time, int word) {
            return (word * TIMES + time) * MAX_NODES;
        }

        boolean hasAssignment(int assignment) {
            return assignment >= 0 && assignment < assignments;
        }

        boolean hasMoment(int node, int time) {
            return circuit.hasNode(node) && time >= 0 && time <= claim.last;
        }

        int total(long[] marks) {
            int total = 0;
            for (int word = 0; word < words; word++) {
                total += Long.bitCount(marks[word]);
            }
            return total;
        }

        private boolean isMarked(long marks, int assignment) {
            return (marks >>> (assignment & WORD_BITS - 1) & 1) != 0;
        }

        int brokenByRank(int rank) {
            int before = 0;
            for (int assignment = 0; assignment < assignments; assignment++) {
                if (isMarked(broken[assignment >> WORD_SHIFT], assignment)) {
                    if (before == rank) {
                        return assignment;
                    }
                    before++;
                }
            }
            return NONE;
        }

        int firstMiss(int assignment, boolean wantsClause) {
            int word = assignment >> WORD_SHIFT;
            if (!isMarked(broken[word], assignment)) {
                return NONE;
            }
            setVariables(word);
            listen(claim.behind);
            for (int i = 0; i < claim.behind.size; i++) {
                Clause clause = claim.behind.rows[i];
                for (int time = clause.from; time <= clause.to; time++) {
                    if (isMarked(misses(i, time, word), assignment)) {
                        return wantsClause ? i : time;
                    }
                }
            }
            return NONE;
        }

        int valueAt(int node, int time, int assignment) {
            int word = assignment >> WORD_SHIFT;
            int at = rowOf(time, word) + node;
            if (isMarked(ruledOut[word], assignment)) {
                return VALUE_RULED_OUT;
            }
            if (isMarked(trajectory.ones[at], assignment)) {
                return 1;
            }
            return isMarked(trajectory.zeros[at], assignment) ? 0 : VALUE_X;
        }

        boolean dependsOnVariable(int node, int time, int v) {
            int bit = 1 << claim.variables.size - 1 - v;
            for (int assignment = 0; assignment < assignments; assignment++) {
                if ((assignment & bit) == 0) {
                    int without = valueAt(node, time, assignment);
                    int with = valueAt(node, time, assignment | bit);
                    if (without != with && without != VALUE_RULED_OUT && with != VALUE_RULED_OUT) {
                        return true;
                    }
                }
            }
            return false;
        }
    }
}
