import java.util.Arrays;
import java.util.NoSuchElementException;

/** A house of process charts and charts of messages; the promises stand in DOC.md. */
public final class ChartHouse {
    private static final int TAPE_LIMIT = 2000;
    private static final int FED_BYTES = 20;
    private static final int MOST_TURNS = 1000;
    private static final int MOST_TIME = 100000;

    private final byte[] tape;
    private int tapeLength;
    private final byte[] out;
    private int outLength;
    private final Tokens tokens;
    private final Parser parser;
    private final World world;
    private final Walker walker;
    // A text is read into the draft, so that what was stays if the text has a fault.
    private Plan plan;
    private Plan draftPlan;
    private boolean hasSystem;
    private Chart messages;
    private Chart draftMessages;
    private boolean hasChart;

    public ChartHouse() {
        tape = new byte[TAPE_LIMIT];
        tapeLength = 0;
        out = new byte[Names.LONGEST];
        outLength = 0;
        tokens = new Tokens();
        plan = new Plan();
        draftPlan = new Plan();
        parser = new Parser(tokens, draftPlan);
        hasSystem = false;
        world = new World(plan, new Trace(Trace.LIMIT));
        walker = new Walker(plan);
        messages = new Chart();
        draftMessages = new Chart();
        hasChart = false;
    }

    public int feed(int a, int b, int c, int d, int e) throws IndexOutOfBoundsException {
        if (tapeLength > TAPE_LIMIT - FED_BYTES) {
            throw new IndexOutOfBoundsException("the tape is full");
        }
        append(a);
        append(b);
        append(c);
        append(d);
        append(e);
        return tapeLength;
    }

    public int end(int n) throws IllegalArgumentException {
        if (n < 0 || n > tapeLength) {
            throw new IllegalArgumentException("not a length of the tape");
        }
        tapeLength = n;
        return n;
    }

    public int system() {
        readTape();
        int fault = parser.read(draftPlan);
        if (fault >= 0) {
            return -1 - fault;
        }
        Plan old = plan;
        plan = draftPlan;
        draftPlan = old;
        hasSystem = true;
        world.restart(plan);
        return plan.processes;
    }

    public int begin() throws IllegalStateException {
        needSystem();
        world.restart(plan);
        return world.live;
    }

    public int outside(int id, int value)
            throws IllegalStateException, NoSuchElementException, UnsupportedOperationException {
        readTape();
        Instance who = needInstance(id);
        if (!tokens.isOneName()) {
            throw new UnsupportedOperationException("the tape is not a name");
        }
        int name = plan.names.keep(tokens.headAt(0), tokens.tailAt(0));
        return world.sendFromOutside(who, name, value) ? 1 : 0;
    }

    public int turn(int id) throws IllegalStateException, NoSuchElementException {
        return world.takeTurn(needInstance(id));
    }

    public int run(int n) throws IllegalArgumentException, IllegalStateException {
        if (n < 0 || n > MOST_TURNS) {
            throw new IllegalArgumentException("turns out of range");
        }
        needSystem();
        return world.takeTurns(n);
    }

    public int time(int n) throws IllegalArgumentException, IllegalStateException {
        if (n < 0 || n > MOST_TIME) {
            throw new IllegalArgumentException("time out of range");
        }
        needSystem();
        return world.goOn(n);
    }

    public int look(int id, int what) throws IllegalArgumentException, IllegalStateException, NoSuchElementException {
        if (what < 0 || what > 6) {
            throw new IllegalArgumentException("nothing to look at");
        }
        Instance who = needInstance(id);
        switch (what) {
            case 0: return who.process;
            case 1: return who.state;
            case 2: return who.queued;
            case 3: return who.timers;
            case 4: return who.parent;
            case 5: return who.sender;
            default: return who.child;
        }
    }

    public int variable(int id) throws IllegalStateException, NoSuchElementException, UnsupportedOperationException {
        readTape();
        Instance who = needInstance(id);
        int found = -1;
        if (tokens.isOneName()) {
            int name = plan.names.find(tokens.headAt(0), tokens.tailAt(0));
            found = plan.findVariable(who.process, name);
        }
        if (found < 0) {
            throw new UnsupportedOperationException("no such variable");
        }
        return who.valueOf(found);
    }

    public int queue(int id, int i, int what)
            throws IllegalArgumentException, IllegalStateException, NoSuchElementException, IndexOutOfBoundsException {
        if (what < 0 || what > 2) {
            throw new IllegalArgumentException("nothing to ask of a signal");
        }
        Instance who = needInstance(id);
        if (i < 0 || i >= who.queued) {
            throw new IndexOutOfBoundsException("no such signal");
        }
        switch (what) {
            case 0: return who.values[i];
            case 1: return who.senders[i];
            default: return spell(who.names[i]);
        }
    }

    public int event(int i, int what)
            throws IllegalArgumentException, IllegalStateException, IndexOutOfBoundsException {
        if (what < 0 || what > 3) {
            throw new IllegalArgumentException("nothing to ask of an event");
        }
        needSystem();
        Trace trace = world.trace;
        if (i < 0 || i >= trace.length) {
            throw new IndexOutOfBoundsException("no such event");
        }
        switch (what) {
            case 0: return trace.kinds[i];
            case 1: return trace.ids[i];
            case 2: return trace.values[i];
            default: return spell(trace.names[i]);
        }
    }

    public long word(int i) throws IndexOutOfBoundsException {
        if (i < 0 || i >= outLength) {
            throw new IndexOutOfBoundsException("no such byte of out");
        }
        long eight = 0;
        for (int k = 0; k < 8; k++) {
            int at = i + k;
            eight = (eight << 8) | (at < outLength ? out[at] & 0xFF : 0);
        }
        return eight;
    }

    public int walk(int what, int p, int s) throws IllegalArgumentException, IllegalStateException {
        if (what < 0 || what > 3) {
            throw new IllegalArgumentException("nothing to look for");
        }
        int processes = hasSystem ? plan.processes : Plan.PROCESSES;
        if (what == 3 && (p < 0 || p >= processes || s < 0 || s >= Plan.STATES)) {
            throw new IllegalArgumentException("no such process or state");
        }
        needSystem();
        return walker.search(world, what, p, s);
    }

    public int act(int i) throws IndexOutOfBoundsException {
        if (i < 0 || i >= walker.rowLength) {
            throw new IndexOutOfBoundsException("no such act");
        }
        return walker.row[i];
    }

    public int chart() {
        readTape();
        int fault = draftMessages.read(tokens);
        if (fault >= 0) {
            return -1 - fault;
        }
        Chart old = messages;
        messages = draftMessages;
        draftMessages = old;
        hasChart = true;
        return messages.length;
    }

    public boolean fits() throws IllegalStateException {
        needSystem();
        needChart();
        return messages.isRun(world.trace, plan);
    }

    public int races() throws IllegalStateException {
        needChart();
        return messages.raceCount;
    }

    public int race(int i, int side) throws IllegalArgumentException, IllegalStateException, IndexOutOfBoundsException {
        if (side < 0 || side > 1) {
            throw new IllegalArgumentException("a race has two sides");
        }
        needChart();
        if (i < 0 || i >= messages.raceCount) {
            throw new IndexOutOfBoundsException("no such race");
        }
        return side == 0 ? messages.raceFirsts[i] : messages.raceOthers[i];
    }

    public int count(int what) throws IllegalArgumentException {
        if (what < 0 || what > 13) {
            throw new IllegalArgumentException("nothing to count");
        }
        switch (what) {
            case 0: return tapeLength;
            case 1: return outLength;
            case 2: return hasSystem ? plan.processes : 0;
            case 3: return world.live;
            case 4: return world.given;
            case 5: return world.now;
            case 6: return world.trace.length;
            case 7: return world.countSignals();
            case 8: return world.countTimers();
            case 9: return world.lost;
            case 10: return world.thrown;
            case 11: return walker.seen;
            case 12: return walker.rowLength;
            default: return hasChart ? messages.length : 0;
        }
    }

    private void append(int four) {
        for (int shift = 24; shift >= 0 && tapeLength < TAPE_LIMIT; shift -= 8) {
            tape[tapeLength] = (byte) (four >>> shift);
            tapeLength++;
        }
    }

    private void readTape() {
        tokens.scan(tape, tapeLength);
        tapeLength = 0;
    }

    private int spell(int name) {
        outLength = plan.names.spell(name, out);
        return outLength;
    }

    private void needSystem() {
        if (!hasSystem) {
            throw new IllegalStateException("there is no system");
        }
    }

    private void needChart() {
        if (!hasChart) {
            throw new IllegalStateException("there is no chart");
        }
    }

    private Instance needInstance(int id) {
        needSystem();
        Instance who = world.withId(id);
        if (who == null) {
            throw new NoSuchElementException("no such instance");
        }
        return who;
    }

    /** Names as numbers, so that they are compared and kept in one int. */
    static final class Names {
        static final int LONGEST = 12;
        static final int NONE = -1;
        private final long[] heads;
        private final int[] tails;
        private int length;

        Names(int limit) {
            int room = Math.max(0, limit);
            heads = new long[room];
            tails = new int[room];
            length = 0;
        }

        int length() {
            return length;
        }

        /** Forgets the names that came after the first so many. */
        void cut(int keep) {
            if (keep >= 0 && keep < length) {
                length = keep;
            }
        }

        int find(long head, int tail) {
            for (int i = 0; i < length; i++) {
                if (heads[i] == head && tails[i] == tail) {
                    return i;
                }
            }
            return NONE;
        }

        int keep(long head, int tail) {
            int known = find(head, tail);
            if (known >= 0) {
                return known;
            }
            // 512 calls can't fill the row; the last place is for the calls beyond, whose answers are free.
            int at = Math.min(length, heads.length - 1);
            if (at < 0) {
                return NONE;
            }
            heads[at] = head;
            tails[at] = tail;
            length = at + 1;
            return at;
        }

        /** The number that another house of names has for one of these names. */
        int findIn(Names other, int name) {
            if (name < 0 || name >= length) {
                return NONE;
            }
            return other.find(heads[name], tails[name]);
        }

        int spell(int name, byte[] into) {
            if (name < 0 || name >= length) {
                return 0;
            }
            int size = 0;
            for (int i = 0; i < LONGEST && i < into.length; i++) {
                long eight = i < 8 ? heads[name] >>> (56 - 8 * i) : tails[name] >>> (88 - 8 * i);
                into[i] = (byte) eight;
                if (into[i] != 0) {
                    size = i + 1;
                }
            }
            return size;
        }
    }

    /** The tape as tokens; signs have their own character as kind. */
    static final class Tokens {
        static final int PROCESS = 1;
        static final int LET = 2;
        static final int START = 3;
        static final int STATE = 4;
        static final int ON = 5;
        static final int FIRST = 6;
        static final int SAVE = 7;
        static final int WHEN = 8;
        static final int ANY = 9;
        static final int SEND = 10;
        static final int TO = 11;
        static final int SET = 12;
        static final int RESET = 13;
        static final int MAKE = 14;
        static final int NEXT = 15;
        static final int STOP = 16;
        static final int SAY = 17;
        static final int IF = 18;
        static final int ELSE = 19;
        static final int SENDER = 20;
        static final int SELF = 21;
        static final int PARENT = 22;
        static final int CHILD = 23;
        static final int OUT = 24;
        static final int NOW = 25;
        static final int NAME = 26;
        static final int NUMBER = 27;
        static final int BAD = 28;
        static final int FINISH = 29;
        static final int EQUAL = 30;
        static final int LIMIT = TAPE_LIMIT + 1;
        // In the order of the constants above, each with a blank behind it.
        private static final String WORDS = "process let start state on first save when any send to set reset make next stop say if else sender self parent child out now ";
        private static final String SIGNS = "{}();,=<+-*>:";
        private static final int LARGEST = 1000000;

        private final long[] words;
        final int[] kinds;
        final int[] numbers;
        private final int[] places;
        private final long[] heads;
        private final int[] tails;
        private int length;

        Tokens() {
            words = new long[NOW + 1];
            kinds = new int[LIMIT];
            places = new int[LIMIT];
            numbers = new int[LIMIT];
            heads = new long[LIMIT];
            tails = new int[LIMIT];
            length = 0;
            int kind = PROCESS;
            for (int i = 0; i < WORDS.length() && kind < words.length; i++) {
                char c = WORDS.charAt(i);
                if (c == ' ') {
                    words[kind] = alignLeft(words[kind]);
                    kind++;
                } else {
                    words[kind] = (words[kind] << 8) | c;
                }
            }
        }

        /** Behind a token that can't stand nothing is read: no grammar goes beyond it. */
        void scan(byte[] text, int size) {
            length = 0;
            int end = Math.min(size, text.length);
            int at = 0;
            for (int i = 0; i < TAPE_LIMIT && at >= 0 && at < end; i++) {
                int c = text[at];
                if (c == 10 || c == 32) {
                    at++;
                } else if (isLetter(c)) {
                    at = scanName(text, end, at);
                } else if (isDigit(c)) {
                    at = scanNumber(text, end, at);
                } else {
                    at = scanSign(text, end, at);
                }
            }
            add(FINISH, end);
        }

        int kindAt(int i) {
            return i >= 0 && i < length ? kinds[i] : FINISH;
        }

        int placeAt(int i) {
            if (length <= 0) {
                return 0;
            }
            return i >= 0 && i < length ? places[i] : places[length - 1];
        }

        int numberAt(int i) {
            return i >= 0 && i < length ? numbers[i] : 0;
        }

        long headAt(int i) {
            return i >= 0 && i < length ? heads[i] : 0;
        }

        int tailAt(int i) {
            return i >= 0 && i < length ? tails[i] : 0;
        }

        /** The names come to be numbers, as if they were told so. */
        void nameAll(Names names) {
            for (int i = 0; i < length; i++) {
                if (kinds[i] == NAME) {
                    numbers[i] = names.keep(heads[i], tails[i]);
                }
            }
        }

        boolean isOneName() {
            return kindAt(0) == NAME && kindAt(1) == FINISH;
        }

        private int scanName(byte[] text, int end, int from) {
            long head = 0;
            int tail = 0;
            int at = from;
            while (at < end && (isLetter(text[at]) || isDigit(text[at]))) {
                int nth = at - from;
                if (nth < 8) {
                    head |= (long) text[at] << (56 - 8 * nth);
                } else if (nth < Names.LONGEST) {
                    tail |= text[at] << (88 - 8 * nth);
                }
                at++;
            }
            if (at - from > Names.LONGEST) {
                return refuse(from, end);
            }
            int token = add(tail == 0 ? kindOf(head) : NAME, from);
            heads[token] = head;
            tails[token] = tail;
            return at;
        }

        private int scanNumber(byte[] text, int end, int from) {
            int value = 0;
            int at = from;
            while (at < end && isDigit(text[at])) {
                value = Math.min(value * 10 + text[at] - '0', LARGEST + 1);
                at++;
            }
            if (value > LARGEST) {
                return refuse(from, end);
            }
            numbers[add(NUMBER, from)] = value;
            return at;
        }

        private int scanSign(byte[] text, int end, int from) {
            int c = text[from];
            if (c < 0 || SIGNS.indexOf((char) c) < 0) {
                return refuse(from, end);
            }
            if (c == '=' && from + 1 < end && text[from + 1] == '=') {
                add(EQUAL, from);
                return from + 2;
            }
            add(c, from);
            return from + 1;
        }

        private int refuse(int from, int end) {
            add(BAD, from);
            return end;
        }

        /** A token has a byte at least, so that the row has room for all and the finish. */
        private int add(int kind, int place) {
            int at = Math.min(length, LIMIT - 1);
            kinds[at] = kind;
            places[at] = place;
            numbers[at] = 0;
            heads[at] = 0;
            tails[at] = 0;
            length = at + 1;
            return at;
        }

        private int kindOf(long head) {
            for (int kind = PROCESS; kind <= NOW; kind++) {
                if (words[kind] == head) {
                    return kind;
                }
            }
            return NAME;
        }

        private static long alignLeft(long packed) {
            long aligned = packed;
            for (int i = 0; i < 8 && (aligned >>> 56) == 0; i++) {
                aligned <<= 8;
            }
            return aligned;
        }

        private static boolean isLetter(int c) {
            return c >= 'a' && c <= 'z' || c >= 'A' && c <= 'Z';
        }

        private static boolean isDigit(int c) {
            return c >= '0' && c <= '9';
        }
    }

    /** What blocks and expressions do, for a machine with a stack of values; jumps go forward only. */
    static final class Code {
        static final int NUMBER = 0;
        static final int VARIABLE = 1;
        static final int NOW = 2;
        static final int SELF = 3;
        static final int SENDER = 4;
        static final int PARENT = 5;
        static final int CHILD = 6;
        static final int NEGATE = 7;
        static final int ADD = 8;
        static final int SUBTRACT = 9;
        static final int MULTIPLY = 10;
        static final int EQUAL = 11;
        static final int LESS = 12;
        static final int ASSIGN = 13;
        static final int SEND_OUT = 14;
        static final int SEND_SENDER = 15;
        static final int SEND_SELF = 16;
        static final int SEND_PARENT = 17;
        static final int SEND_CHILD = 18;
        static final int SEND_PROCESS = 19;
        static final int SET = 20;
        static final int RESET = 21;
        static final int MAKE = 22;
        static final int NEXT = 23;
        static final int STOP = 24;
        static final int SAY = 25;
        static final int SKIP_IF_ZERO = 26;
        static final int JUMP = 27;
        static final int END = 28;
        static final int LIMIT = 2048;

        final int[] ops;
        final int[] args;
        // Of SEND_PROCESS the process it goes to, else the process that it is an op of.
        final int[] peers;
        // Of a name that is to be looked for: which token it is.
        final int[] tokens;
        int length;

        Code() {
            ops = new int[LIMIT];
            args = new int[LIMIT];
            peers = new int[LIMIT];
            tokens = new int[LIMIT];
            length = 0;
        }

        /** Every op has a token of its own, so that the row has room for all of a tape. */
        int add(int op, int arg, int peer, int token) {
            int at = Math.min(length, LIMIT - 1);
            ops[at] = op;
            args[at] = arg;
            peers[at] = peer;
            tokens[at] = token;
            length = at + 1;
            return at;
        }

        void aimHere(int jump) {
            if (jump >= 0 && jump < length) {
                args[jump] = length;
            }
        }
    }

    /** A system as it was told. States and variables lie in flat rows, so many places for each process. */
    static final class Plan {
        static final int PROCESSES = 6;
        static final int VARIABLES = 6;
        static final int STATES = 8;
        static final int CLAUSES = 8;
        // The names of a tape, and one for each of 512 calls.
        private static final int NAMES = 1600;

        final Names names;
        int textNames;
        final Code code;
        int processes;
        final int[] processNames;
        final int[] howMany;
        final int[] startBodies;
        final int[] variables;
        final int[] variableNames;
        final int[] firstValues;
        final int[] states;
        final int[] stateNames;
        final int[] clauses;
        final int[] clauseKinds;
        final int[] clauseSignals;
        final int[] clauseVariables;
        final int[] clauseTests;
        final int[] clauseBodies;

        Plan() {
            names = new Names(NAMES);
            textNames = 0;
            code = new Code();
            processes = 0;
            processNames = new int[PROCESSES];
            howMany = new int[PROCESSES];
            startBodies = new int[PROCESSES];
            variables = new int[PROCESSES];
            variableNames = new int[PROCESSES * VARIABLES];
            firstValues = new int[PROCESSES * VARIABLES];
            states = new int[PROCESSES];
            stateNames = new int[PROCESSES * STATES];
            clauses = new int[PROCESSES * STATES];
            clauseKinds = new int[PROCESSES * STATES * CLAUSES];
            clauseSignals = new int[PROCESSES * STATES * CLAUSES];
            clauseVariables = new int[PROCESSES * STATES * CLAUSES];
            clauseTests = new int[PROCESSES * STATES * CLAUSES];
            clauseBodies = new int[PROCESSES * STATES * CLAUSES];
        }

        void clear() {
            names.cut(0);
            textNames = 0;
            code.length = 0;
            processes = 0;
            Arrays.fill(variables, 0);
            Arrays.fill(states, 0);
            Arrays.fill(clauses, 0);
        }

        int findProcess(int name) {
            for (int i = 0; i < processes && i < PROCESSES; i++) {
                if (processNames[i] == name) {
                    return i;
                }
            }
            return -1;
        }

        int findVariable(int process, int name) {
            if (process < 0 || process >= PROCESSES) {
                return -1;
            }
            for (int i = 0; i < variables[process] && i < VARIABLES; i++) {
                if (variableNames[process * VARIABLES + i] == name) {
                    return i;
                }
            }
            return -1;
        }

        int findState(int process, int name) {
            if (process < 0 || process >= PROCESSES) {
                return -1;
            }
            for (int i = 0; i < states[process] && i < STATES; i++) {
                if (stateNames[process * STATES + i] == name) {
                    return i;
                }
            }
            return -1;
        }

        /** Where the clauses of a state begin. */
        int firstClause(int process, int state) {
            return (process * STATES + state) * CLAUSES;
        }

        int countClauses(int process, int state) {
            if (process < 0 || process >= PROCESSES || state < 0 || state >= STATES) {
                return 0;
            }
            return Math.min(clauses[process * STATES + state], CLAUSES);
        }

        /** The clause of a kind for a signal (for any: the signal NONE) of a state, or -1. */
        int findClause(int process, int state, int kind, int signal) {
            if (process < 0 || process >= PROCESSES || state < 0 || state >= STATES) {
                return -1;
            }
            int at = process * STATES + state;
            for (int i = 0; i < clauses[at] && i < CLAUSES; i++) {
                int clause = at * CLAUSES + i;
                if (clauseKinds[clause] == kind && clauseSignals[clause] == signal) {
                    return clause;
                }
            }
            return -1;
        }

        int countVariables(int process) {
            return process < 0 || process >= PROCESSES ? 0 : Math.min(variables[process], VARIABLES);
        }

        int nameOf(int process) {
            return process < 0 || process >= PROCESSES ? Names.NONE : processNames[process];
        }

        int startOf(int process) {
            return process < 0 || process >= PROCESSES ? -1 : startBodies[process];
        }
    }

    /**
     * Reads tokens into a plan. Each reading method answers whether all of it could stand; if not,
     * the token at which the reading halts is the one that can't.
     */
    static final class Parser {
        private static final int DEEPEST = 8;
        private static final int MOST_AT_FIRST = 3;
        private static final int NONE = -1;
        private static final int AMONG_PROCESSES = 0;
        private static final int AMONG_STATES = 1;
        private static final int AMONG_CLAUSES = 2;

        private final Tokens tokens;
        private Plan plan;
        private Code code;
        private int at;
        private int level;
        // The tokens of the first name that is there already or one too much, and of the first unknown name.
        private int excess;
        private int unknown;
        private int process;
        private int state;
        private int clause;

        Parser(Tokens tokens, Plan plan) {
            this.tokens = tokens;
            this.plan = plan;
            code = plan.code;
        }

        /** Answers the place of the fault, or -1. */
        int read(Plan target) {
            prepare(target);
            boolean stands = true;
            for (int i = 0; i < Tokens.LIMIT && stands && !isWhole(); i++) {
                stands = readPart();
            }
            if (!stands) {
                return tokens.placeAt(at);
            }
            if (excess == NONE) {
                link();
            }
            int fault = excess == NONE ? unknown : excess;
            return fault == NONE ? -1 : tokens.placeAt(fault);
        }

        private void prepare(Plan target) {
            plan = target;
            code = target.code;
            at = 0;
            level = AMONG_PROCESSES;
            excess = NONE;
            unknown = NONE;
            plan.clear();
            tokens.nameAll(plan.names);
            plan.textNames = plan.names.length();
        }

        private boolean isWhole() {
            return level == AMONG_PROCESSES && here() == Tokens.FINISH;
        }

        /** A whole clause, or the head of what has parts of its own, or the brace behind the last part. */
        private boolean readPart() {
            if (level == AMONG_PROCESSES) {
                level = AMONG_STATES;
                return readProcess();
            }
            if (here() == '}') {
                at++;
                level--;
                return true;
            }
            if (level == AMONG_STATES) {
                level = AMONG_CLAUSES;
                return readState();
            }
            return readClause();
        }

        private int here() {
            return at >= 0 && at < Tokens.LIMIT ? tokens.kinds[at] : Tokens.FINISH;
        }

        private boolean takes(int kind) {
            if (at < 0 || at >= Tokens.LIMIT || tokens.kinds[at] != kind) {
                return false;
            }
            at++;
            return true;
        }

        /** The number, or the name's number, of the token that was taken last. */
        private int taken() {
            return at > 0 && at <= Tokens.LIMIT ? tokens.numbers[at - 1] : 0;
        }

        private void noteExcess(int token) {
            if (excess == NONE) {
                excess = token;
            }
        }

        private void noteUnknown(int token) {
            if (unknown == NONE || token < unknown) {
                unknown = token;
            }
        }

        private boolean readProcess() {
            if (!takes(Tokens.PROCESS) || !takes(Tokens.NAME)) {
                return false;
            }
            addProcess(taken());
            if (!takes('(') || !readHowMany() || !takes(')') || !takes('{')) {
                return false;
            }
            for (int i = 0; i < Tokens.LIMIT && here() == Tokens.LET; i++) {
                if (!readVariable()) {
                    return false;
                }
            }
            if (!takes(Tokens.START)) {
                return false;
            }
            plan.startBodies[process] = code.length;
            return readBlock(0);
        }

        // What is one too much comes to the last place: a plan with a fault is never run.
        private void addProcess(int name) {
            if (plan.findProcess(name) >= 0 || plan.processes >= Plan.PROCESSES) {
                noteExcess(at - 1);
            }
            process = Math.min(plan.processes, Plan.PROCESSES - 1);
            plan.processNames[process] = name;
            plan.processes = process + 1;
        }

        private boolean readHowMany() {
            if (tokens.numberAt(at) > MOST_AT_FIRST || !takes(Tokens.NUMBER)) {
                return false;
            }
            plan.howMany[process] = taken();
            return true;
        }

        private boolean readVariable() {
            if (!takes(Tokens.LET) || !takes(Tokens.NAME)) {
                return false;
            }
            int name = taken();
            int many = plan.variables[process];
            if (plan.findVariable(process, name) >= 0 || many >= Plan.VARIABLES) {
                noteExcess(at - 1);
            }
            if (!takes('=') || !takes(Tokens.NUMBER)) {
                return false;
            }
            int variable = Math.min(many, Plan.VARIABLES - 1);
            plan.variableNames[process * Plan.VARIABLES + variable] = name;
            plan.firstValues[process * Plan.VARIABLES + variable] = taken();
            plan.variables[process] = variable + 1;
            return takes(';');
        }

        private boolean readState() {
            if (!takes(Tokens.STATE) || !takes(Tokens.NAME)) {
                return false;
            }
            int name = taken();
            int many = plan.states[process];
            if (plan.findState(process, name) >= 0 || many >= Plan.STATES) {
                noteExcess(at - 1);
            }
            state = Math.min(many, Plan.STATES - 1);
            plan.stateNames[process * Plan.STATES + state] = name;
            plan.states[process] = state + 1;
            return takes('{');
        }

        private boolean readClause() {
            int kind = here();
            if (kind < Tokens.ON || kind > Tokens.ANY) {
                return false;
            }
            int many = plan.countClauses(process, state);
            if (many >= Plan.CLAUSES) {
                noteExcess(at);
            }
            at++;
            int last = Math.min(many, Plan.CLAUSES - 1);
            clause = plan.firstClause(process, state) + last;
            boolean stands = readClauseHead(kind);
            plan.clauseKinds[clause] = kind;
            plan.clauses[process * Plan.STATES + state] = last + 1;
            if (!stands || kind == Tokens.SAVE) {
                return stands && takes(';');
            }
            plan.clauseBodies[clause] = code.length;
            return readBlock(0);
        }

        private boolean readClauseHead(int kind) {
            plan.clauseSignals[clause] = Names.NONE;
            plan.clauseVariables[clause] = -1;
            if (kind == Tokens.ANY) {
                if (plan.findClause(process, state, kind, Names.NONE) >= 0) {
                    noteExcess(at - 1);
                }
                return true;
            }
            if (kind == Tokens.WHEN) {
                return readTest();
            }
            return readSignal() && (kind == Tokens.SAVE || here() != '(' || readInto());
        }

        private boolean readTest() {
            plan.clauseTests[clause] = code.length;
            if (!readBracketed(0)) {
                return false;
            }
            code.add(Code.END, 0, process, at - 1);
            return true;
        }

        private boolean readSignal() {
            if (!takes(Tokens.NAME)) {
                return false;
            }
            int name = taken();
            if (plan.findClause(process, state, Tokens.ON, name) >= 0
                    || plan.findClause(process, state, Tokens.FIRST, name) >= 0
                    || plan.findClause(process, state, Tokens.SAVE, name) >= 0) {
                noteExcess(at - 1);
            }
            plan.clauseSignals[clause] = name;
            return true;
        }

        private boolean readInto() {
            if (!takes('(') || !takes(Tokens.NAME)) {
                return false;
            }
            int variable = plan.findVariable(process, taken());
            if (variable < 0) {
                noteUnknown(at - 1);
            }
            plan.clauseVariables[clause] = variable;
            return takes(')');
        }

        private boolean readBlock(int depth) {
            if (depth >= DEEPEST || !takes('{')) {
                return false;
            }
            for (int i = 0; i < Tokens.LIMIT && here() != '}'; i++) {
                if (!readAct(depth + 1)) {
                    return false;
                }
            }
            if (depth == 0) {
                code.add(Code.END, 0, process, at);
            }
            return takes('}');
        }

        private boolean readAct(int depth) {
            switch (here()) {
                case Tokens.NAME: return readAssignment(depth);
                case Tokens.SEND: return readSend(depth);
                case Tokens.SET: return readSet(depth);
                case Tokens.RESET: return readNamed(Code.RESET);
                case Tokens.MAKE: return readNamed(Code.MAKE);
                case Tokens.NEXT: return readNamed(Code.NEXT);
                case Tokens.STOP: return readStop();
                case Tokens.SAY: return readSay(depth);
                case Tokens.IF: return readIf(depth);
                default: return false;
            }
        }

        private boolean readAssignment(int depth) {
            int token = at;
            at++;
            int name = taken();
            if (!takes('=') || !readExpression(depth)) {
                return false;
            }
            code.add(Code.ASSIGN, name, process, token);
            return takes(';');
        }

        private boolean readSend(int depth) {
            at++;
            if (!takes(Tokens.NAME)) {
                return false;
            }
            int name = taken();
            if (here() == '(') {
                if (!readBracketed(depth)) {
                    return false;
                }
            } else {
                code.add(Code.NUMBER, 0, process, at - 1);
            }
            return takes(Tokens.TO) && readTarget(name) && takes(';');
        }

        private boolean readTarget(int signal) {
            int op;
            switch (here()) {
                case Tokens.OUT: op = Code.SEND_OUT; break;
                case Tokens.SENDER: op = Code.SEND_SENDER; break;
                case Tokens.SELF: op = Code.SEND_SELF; break;
                case Tokens.PARENT: op = Code.SEND_PARENT; break;
                case Tokens.CHILD: op = Code.SEND_CHILD; break;
                case Tokens.NAME: op = Code.SEND_PROCESS; break;
                default: return false;
            }
            at++;
            code.add(op, signal, taken(), at - 1);
            return true;
        }

        private boolean readSet(int depth) {
            at++;
            if (!takes(Tokens.NAME)) {
                return false;
            }
            int name = taken();
            if (!readExpression(depth)) {
                return false;
            }
            code.add(Code.SET, name, process, at - 1);
            return takes(';');
        }

        private boolean readNamed(int op) {
            at++;
            if (!takes(Tokens.NAME)) {
                return false;
            }
            code.add(op, taken(), process, at - 1);
            return takes(';');
        }

        private boolean readStop() {
            at++;
            code.add(Code.STOP, 0, process, at - 1);
            return takes(';');
        }

        private boolean readSay(int depth) {
            at++;
            if (!readExpression(depth)) {
                return false;
            }
            code.add(Code.SAY, 0, process, at - 1);
            return takes(';');
        }

        private boolean readIf(int depth) {
            at++;
            if (!readBracketed(depth)) {
                return false;
            }
            int skip = code.add(Code.SKIP_IF_ZERO, 0, process, at - 1);
            if (!readBlock(depth)) {
                return false;
            }
            if (here() != Tokens.ELSE) {
                code.aimHere(skip);
                return true;
            }
            at++;
            int jump = code.add(Code.JUMP, 0, process, at - 1);
            code.aimHere(skip);
            boolean stands = readBlock(depth);
            code.aimHere(jump);
            return stands;
        }

        private boolean readBracketed(int depth) {
            return depth < DEEPEST && takes('(') && readExpression(depth + 1) && takes(')');
        }

        private boolean readExpression(int depth) {
            if (!readSum(depth)) {
                return false;
            }
            int sign = here();
            if (sign != Tokens.EQUAL && sign != '<') {
                return true;
            }
            at++;
            if (!readSum(depth)) {
                return false;
            }
            code.add(sign == '<' ? Code.LESS : Code.EQUAL, 0, process, at - 1);
            return true;
        }

        private boolean readSum(int depth) {
            if (!readProduct(depth)) {
                return false;
            }
            for (int i = 0; i < Tokens.LIMIT && (here() == '+' || here() == '-'); i++) {
                int op = here() == '+' ? Code.ADD : Code.SUBTRACT;
                at++;
                if (!readProduct(depth)) {
                    return false;
                }
                code.add(op, 0, process, at - 1);
            }
            return true;
        }

        private boolean readProduct(int depth) {
            if (!readSimple(depth)) {
                return false;
            }
            for (int i = 0; i < Tokens.LIMIT && here() == '*'; i++) {
                at++;
                if (!readSimple(depth)) {
                    return false;
                }
                code.add(Code.MULTIPLY, 0, process, at - 1);
            }
            return true;
        }

        private boolean readSimple(int depth) {
            int op;
            switch (here()) {
                case '(': return readBracketed(depth);
                case '-': return readNegative(depth);
                case Tokens.NUMBER: op = Code.NUMBER; break;
                case Tokens.NAME: op = Code.VARIABLE; break;
                case Tokens.NOW: op = Code.NOW; break;
                case Tokens.SELF: op = Code.SELF; break;
                case Tokens.SENDER: op = Code.SENDER; break;
                case Tokens.PARENT: op = Code.PARENT; break;
                case Tokens.CHILD: op = Code.CHILD; break;
                default: return false;
            }
            at++;
            code.add(op, taken(), process, at - 1);
            return true;
        }

        private boolean readNegative(int depth) {
            if (depth >= DEEPEST || !takes('-') || !readSimple(depth + 1)) {
                return false;
            }
            code.add(Code.NEGATE, 0, process, at - 1);
            return true;
        }

        /** States and processes may stand behind their use, so names are looked for when all is read. */
        private void link() {
            for (int i = 0; i < code.length && i < Code.LIMIT; i++) {
                int name = code.args[i];
                switch (code.ops[i]) {
                    case Code.VARIABLE:
                    case Code.ASSIGN:
                        code.args[i] = known(i, plan.findVariable(code.peers[i], name));
                        break;
                    case Code.SEND_PROCESS:
                        code.peers[i] = known(i, plan.findProcess(code.peers[i]));
                        break;
                    case Code.MAKE:
                        code.args[i] = known(i, plan.findProcess(name));
                        break;
                    case Code.NEXT:
                        code.args[i] = known(i, plan.findState(code.peers[i], name));
                        break;
                    default:
                        break;
                }
            }
        }

        private int known(int op, int found) {
            if (found < 0) {
                noteUnknown(code.tokens[op]);
            }
            return found;
        }
    }

    /** One instance of a process; its rows are made once and used again. */
    static final class Instance {
        static final int QUEUE = 8;
        static final int TIMERS = 4;
        static final int PACKED = 6 + Plan.VARIABLES + 1 + 3 * QUEUE + 1 + 2 * TIMERS;

        int id;
        int process;
        int state;
        int parent;
        int sender;
        int child;
        final int[] variables;
        int queued;
        final int[] names;
        final int[] values;
        final int[] senders;
        // The process a signal comes from, or OUTSIDE, or LEFT_OUT if it is a timer's: only charts ask for it.
        final int[] origins;
        int timers;
        final int[] timerNames;
        final int[] timerDues;

        Instance() {
            variables = new int[Plan.VARIABLES];
            names = new int[QUEUE];
            values = new int[QUEUE];
            senders = new int[QUEUE];
            origins = new int[QUEUE];
            timerNames = new int[TIMERS];
            timerDues = new int[TIMERS];
        }

        int valueOf(int variable) {
            return variable >= 0 && variable < Plan.VARIABLES ? variables[variable] : 0;
        }

        void store(int variable, int value) {
            if (variable >= 0 && variable < Plan.VARIABLES) {
                variables[variable] = value;
            }
        }

        /** Answers whether there was room. */
        boolean accept(int name, int value, int from, int origin) {
            if (queued < 0 || queued >= QUEUE) {
                return false;
            }
            names[queued] = name;
            values[queued] = value;
            senders[queued] = from;
            origins[queued] = origin;
            queued++;
            return true;
        }

        void dropSignal(int i) {
            if (i < 0 || i >= queued || queued > QUEUE) {
                return;
            }
            int behind = queued - i - 1;
            System.arraycopy(names, i + 1, names, i, behind);
            System.arraycopy(values, i + 1, values, i, behind);
            System.arraycopy(senders, i + 1, senders, i, behind);
            System.arraycopy(origins, i + 1, origins, i, behind);
            queued--;
        }

        int findTimer(int name) {
            for (int i = 0; i < timers && i < TIMERS; i++) {
                if (timerNames[i] == name) {
                    return i;
                }
            }
            return -1;
        }

        /** Answers whether there was room. */
        boolean addTimer(int name, int due) {
            if (timers < 0 || timers >= TIMERS) {
                return false;
            }
            timerNames[timers] = name;
            timerDues[timers] = due;
            timers++;
            return true;
        }

        void dropTimer(int i) {
            if (i < 0 || i >= timers || timers > TIMERS) {
                return;
            }
            int behind = timers - i - 1;
            System.arraycopy(timerNames, i + 1, timerNames, i, behind);
            System.arraycopy(timerDues, i + 1, timerDues, i, behind);
            timers--;
        }

        void resetTimer(int name) {
            dropTimer(findTimer(name));
            for (int i = Math.min(queued, QUEUE) - 1; i >= 0; i--) {
                if (names[i] == name && senders[i] == id) {
                    dropSignal(i);
                }
            }
        }

        /** Writes all but NOW and the origins, which no state is told apart by; answers where it ends. */
        int pack(int[] into, int from, int now, int ownVariables) {
            int at = from;
            if (at < 0 || at > into.length - PACKED) {
                return at;
            }
            into[at] = id;
            into[at + 1] = process;
            into[at + 2] = state;
            into[at + 3] = parent;
            into[at + 4] = sender;
            into[at + 5] = child;
            at += 6;
            for (int i = 0; i < ownVariables && i < Plan.VARIABLES; i++) {
                into[at++] = variables[i];
            }
            into[at++] = queued;
            for (int i = 0; i < queued && i < QUEUE; i++) {
                into[at] = names[i];
                into[at + 1] = values[i];
                into[at + 2] = senders[i];
                at += 3;
            }
            into[at++] = timers;
            for (int i = 0; i < timers && i < TIMERS; i++) {
                into[at] = timerNames[i];
                into[at + 1] = timerDues[i] - now;
                at += 2;
            }
            return at;
        }

        /** The other way of pack. The row must go on for PACKED ints at least. */
        int unpack(int[] row, int from, int now, Plan plan) {
            int at = from;
            if (at < 0 || at > row.length - PACKED) {
                return at;
            }
            id = row[at];
            process = row[at + 1];
            state = row[at + 2];
            parent = row[at + 3];
            sender = row[at + 4];
            child = row[at + 5];
            at += 6;
            int ownVariables = plan.countVariables(process);
            for (int i = 0; i < ownVariables && i < Plan.VARIABLES; i++) {
                variables[i] = row[at++];
            }
            queued = Math.min(row[at++], QUEUE);
            for (int i = 0; i < queued; i++) {
                names[i] = row[at];
                values[i] = row[at + 1];
                senders[i] = row[at + 2];
                at += 3;
            }
            timers = Math.min(row[at++], TIMERS);
            for (int i = 0; i < timers; i++) {
                timerNames[i] = row[at];
                timerDues[i] = row[at + 1] + now;
                at += 2;
            }
            return at;
        }
    }

    /** What was done, event by event. */
    static final class Trace {
        static final int LIMIT = 400;
        static final int SENT = 0;
        static final int TAKEN = 1;
        static final int THROWN = 2;
        static final int LOST = 3;
        static final int MADE = 4;
        static final int STOPPED = 5;
        static final int DUE = 6;
        static final int SAID = 7;
        // Origins and goals beside the processes.
        static final int OUTSIDE = -1;
        static final int LEFT_OUT = -2;

        final int[] kinds;
        final int[] ids;
        final int[] names;
        final int[] values;
        // For charts: the process whose event it is, and the one it goes to or comes from.
        final int[] owners;
        final int[] peers;
        int length;
        boolean missed;

        Trace(int limit) {
            int room = Math.max(0, limit);
            kinds = new int[room];
            ids = new int[room];
            names = new int[room];
            values = new int[room];
            owners = new int[room];
            peers = new int[room];
            length = 0;
            missed = false;
        }

        void clear() {
            length = 0;
            missed = false;
        }

        void add(int kind, int id, int name, int value, int owner, int peer) {
            if (length < 0 || length >= kinds.length) {
                missed = true;
                return;
            }
            kinds[length] = kind;
            ids[length] = id;
            names[length] = name;
            values[length] = value;
            owners[length] = owner;
            peers[length] = peer;
            length++;
        }
    }

    /** All that is there of a system that has begun. */
    static final class World {
        static final int ROOM = 8;
        static final int ROOM_FOR_PROCESS = 4;
        static final int PACKED = 2 + ROOM * Instance.PACKED;
        static final int NOTHING = 0;
        static final int START = 1;
        static final int PRIORITY = 2;
        static final int INPUT = 3;
        static final int ANY = 4;
        static final int THROWN_AWAY = 5;
        static final int CONTINUOUS = 6;
        private static final int LATEST = 1000000;
        // Eight brackets within one another hold three values each at most.
        private static final int STACK = 64;

        Plan plan;
        final Trace trace;
        // The first ones live, by id; the others wait to be used again.
        final Instance[] slots;
        int live;
        int given;
        int now;
        int lost;
        int thrown;
        private int lastRun;
        private final int[] stack;
        private int top;
        private int chosenSignal;
        private int chosenClause;

        World(Plan plan, Trace trace) {
            this.plan = plan;
            this.trace = trace;
            slots = new Instance[ROOM];
            for (int i = 0; i < ROOM; i++) {
                slots[i] = new Instance();
            }
            stack = new int[STACK];
            lastRun = -1;
        }

        void restart(Plan newPlan) {
            plan = newPlan;
            // Only signals that are gone now bore names from outside.
            plan.names.cut(plan.textNames);
            trace.clear();
            live = 0;
            given = 0;
            now = 0;
            lost = 0;
            thrown = 0;
            lastRun = -1;
            for (int p = 0; p < plan.processes && p < Plan.PROCESSES; p++) {
                for (int i = 0; i < plan.howMany[p] && live < ROOM; i++) {
                    create(p, -1);
                }
            }
        }

        Instance withId(int id) {
            for (int i = 0; i < live && i < ROOM; i++) {
                if (slots[i].id == id) {
                    return slots[i];
                }
            }
            return null;
        }

        int countSignals() {
            int sum = 0;
            for (int i = 0; i < live && i < ROOM; i++) {
                sum += slots[i].queued;
            }
            return sum;
        }

        int countTimers() {
            int sum = 0;
            for (int i = 0; i < live && i < ROOM; i++) {
                sum += slots[i].timers;
            }
            return sum;
        }

        boolean sendFromOutside(Instance goal, int name, int value) {
            boolean came = goal.accept(name, value, -1, Trace.OUTSIDE);
            trace.add(Trace.SENT, -1, name, value, Trace.OUTSIDE, came ? goal.process : Trace.LEFT_OUT);
            if (!came) {
                lose(-1, name, value);
            }
            return came;
        }

        int takeTurns(int most) {
            int done = 0;
            while (done < most) {
                Instance who = nextToRun();
                if (who == null) {
                    break;
                }
                lastRun = who.id;
                takeTurn(who);
                done++;
            }
            return done;
        }

        private Instance nextToRun() {
            Instance least = null;
            for (int i = 0; i < live && i < ROOM; i++) {
                Instance who = slots[i];
                boolean behind = who.id > lastRun;
                if ((behind || least == null) && choose(who) != NOTHING) {
                    if (behind) {
                        return who;
                    }
                    least = who;
                }
            }
            return least;
        }

        int takeTurn(Instance who) {
            int kind = choose(who);
            int body = -1;
            if (kind == START) {
                body = plan.startOf(who.process);
            } else if (kind != NOTHING) {
                if (kind != CONTINUOUS) {
                    take(who, kind);
                }
                if (chosenClause >= 0 && chosenClause < plan.clauseBodies.length) {
                    body = plan.clauseBodies[chosenClause];
                }
            }
            if (body >= 0) {
                execute(who, body);
            }
            return kind;
        }

        /** What a turn would be; the signal and the clause that it is about are left chosen. */
        int choose(Instance who) {
            chosenSignal = -1;
            chosenClause = -1;
            if (who.state < 0) {
                return START;
            }
            if (choosePriority(who)) {
                return PRIORITY;
            }
            int kind = chooseSignal(who);
            if (kind != NOTHING) {
                return kind;
            }
            int from = plan.firstClause(who.process, who.state);
            int many = plan.countClauses(who.process, who.state);
            for (int i = from; i < from + many; i++) {
                if (plan.clauseKinds[i] == Tokens.WHEN && evaluate(who, plan.clauseTests[i]) != 0) {
                    chosenClause = i;
                    return CONTINUOUS;
                }
            }
            return NOTHING;
        }

        private boolean choosePriority(Instance who) {
            for (int i = 0; i < who.queued && i < Instance.QUEUE; i++) {
                int clause = plan.findClause(who.process, who.state, Tokens.FIRST, who.names[i]);
                if (clause >= 0) {
                    chosenSignal = i;
                    chosenClause = clause;
                    return true;
                }
            }
            return false;
        }

        private int chooseSignal(Instance who) {
            for (int i = 0; i < who.queued && i < Instance.QUEUE; i++) {
                int name = who.names[i];
                if (plan.findClause(who.process, who.state, Tokens.SAVE, name) >= 0) {
                    continue;
                }
                chosenSignal = i;
                chosenClause = plan.findClause(who.process, who.state, Tokens.ON, name);
                if (chosenClause >= 0) {
                    return INPUT;
                }
                chosenClause = plan.findClause(who.process, who.state, Tokens.ANY, Names.NONE);
                return chosenClause >= 0 ? ANY : THROWN_AWAY;
            }
            return NOTHING;
        }

        private void take(Instance who, int kind) {
            int i = chosenSignal;
            if (i < 0 || i >= who.queued || i >= Instance.QUEUE) {
                return;
            }
            int value = who.values[i];
            int event = kind == THROWN_AWAY ? Trace.THROWN : Trace.TAKEN;
            trace.add(event, who.id, who.names[i], value, who.process, who.origins[i]);
            who.sender = who.senders[i];
            who.dropSignal(i);
            if (kind == THROWN_AWAY) {
                thrown++;
            } else if (chosenClause >= 0 && chosenClause < plan.clauseVariables.length) {
                who.store(plan.clauseVariables[chosenClause], value);
            }
        }

        private int evaluate(Instance who, int test) {
            Code code = plan.code;
            top = 0;
            for (int pc = test; pc >= 0 && pc < code.length && pc < Code.LIMIT; pc++) {
                if (code.ops[pc] > Code.LESS) {
                    break;
                }
                compute(who, code.ops[pc], code.args[pc]);
            }
            return pop();
        }

        private void execute(Instance who, int body) {
            Code code = plan.code;
            int pc = body;
            top = 0;
            for (int steps = 0; steps < Code.LIMIT && pc >= 0 && pc < code.length && pc < Code.LIMIT; steps++) {
                int op = code.ops[pc];
                int arg = code.args[pc];
                int peer = code.peers[pc];
                pc++;
                switch (op) {
                    case Code.ASSIGN: who.store(arg, pop()); break;
                    case Code.SEND_OUT:
                        trace.add(Trace.SENT, who.id, arg, pop(), who.process, Trace.OUTSIDE);
                        break;
                    case Code.SEND_SENDER: send(who, withId(who.sender), arg); break;
                    case Code.SEND_SELF: send(who, who, arg); break;
                    case Code.SEND_PARENT: send(who, withId(who.parent), arg); break;
                    case Code.SEND_CHILD: send(who, withId(who.child), arg); break;
                    case Code.SEND_PROCESS: send(who, leastOf(peer), arg); break;
                    case Code.SET: set(who, arg, pop()); break;
                    case Code.RESET: who.resetTimer(arg); break;
                    case Code.MAKE: make(who, arg); break;
                    case Code.SAY: trace.add(Trace.SAID, who.id, Names.NONE, pop(), who.process, Trace.LEFT_OUT); break;
                    case Code.SKIP_IF_ZERO: pc = pop() == 0 ? arg : pc; break;
                    case Code.JUMP: pc = arg; break;
                    case Code.NEXT: who.state = arg; return;
                    case Code.STOP: stop(who); return;
                    case Code.END:
                        if (who.state < 0) {
                            stop(who);
                        }
                        return;
                    default: compute(who, op, arg);
                }
            }
        }

        private void compute(Instance who, int op, int arg) {
            switch (op) {
                case Code.NUMBER: push(arg); return;
                case Code.VARIABLE: push(who.valueOf(arg)); return;
                case Code.NOW: push(now); return;
                case Code.SELF: push(who.id); return;
                case Code.SENDER: push(who.sender); return;
                case Code.PARENT: push(who.parent); return;
                case Code.CHILD: push(who.child); return;
                case Code.NEGATE: push(-pop()); return;
                default: break;
            }
            int right = pop();
            int left = pop();
            switch (op) {
                case Code.ADD: push(left + right); break;
                case Code.SUBTRACT: push(left - right); break;
                case Code.MULTIPLY: push(left * right); break;
                case Code.EQUAL: push(left == right ? 1 : 0); break;
                default: push(left < right ? 1 : 0);
            }
        }

        private void push(int value) {
            if (top >= 0 && top < STACK) {
                stack[top] = value;
                top++;
            }
        }

        private int pop() {
            if (top <= 0 || top > STACK) {
                return 0;
            }
            top--;
            return stack[top];
        }

        private Instance leastOf(int process) {
            for (int i = 0; i < live && i < ROOM; i++) {
                if (slots[i].process == process) {
                    return slots[i];
                }
            }
            return null;
        }

        private void send(Instance who, Instance goal, int name) {
            int value = pop();
            boolean came = goal != null && goal.accept(name, value, who.id, who.process);
            int peer = goal != null && came ? goal.process : Trace.LEFT_OUT;
            trace.add(Trace.SENT, who.id, name, value, who.process, peer);
            if (!came) {
                lose(who.id, name, value);
            }
        }

        private void lose(int id, int name, int value) {
            lost++;
            trace.add(Trace.LOST, id, name, value, Trace.LEFT_OUT, Trace.LEFT_OUT);
        }

        private void set(Instance who, int name, int wait) {
            if (who.findTimer(name) >= 0) {
                who.resetTimer(name);
            }
            int due = now + Math.max(0, Math.min(wait, LATEST));
            if (!who.addTimer(name, due)) {
                lose(who.id, name, 0);
            }
        }

        private void make(Instance who, int process) {
            int same = 0;
            for (int i = 0; i < live && i < ROOM; i++) {
                if (slots[i].process == process) {
                    same++;
                }
            }
            if (live >= ROOM || same >= ROOM_FOR_PROCESS) {
                who.child = -1;
                lose(who.id, plan.nameOf(process), 0);
                return;
            }
            who.child = given;
            create(process, who.id);
        }

        private void create(int process, int parent) {
            if (live < 0 || live >= ROOM) {
                return;
            }
            Instance fresh = slots[live];
            fresh.id = given;
            fresh.process = process;
            fresh.state = -1;
            fresh.parent = parent;
            fresh.sender = -1;
            fresh.child = -1;
            fresh.queued = 0;
            fresh.timers = 0;
            int many = plan.countVariables(process);
            for (int i = 0; i < many; i++) {
                fresh.variables[i] = plan.firstValues[process * Plan.VARIABLES + i];
            }
            live++;
            given++;
            trace.add(Trace.MADE, fresh.id, plan.nameOf(process), parent, process, Trace.LEFT_OUT);
        }

        private void stop(Instance who) {
            trace.add(Trace.STOPPED, who.id, Names.NONE, 0, who.process, Trace.LEFT_OUT);
            int at = 0;
            while (at < live && at < ROOM && slots[at].id != who.id) {
                at++;
            }
            if (at >= live || live > ROOM) {
                return;
            }
            for (int i = at; i + 1 < live; i++) {
                slots[i] = slots[i + 1];
            }
            live--;
            slots[live] = who;
        }

        /** Answers how many timers came due. */
        int goOn(int more) {
            now += more;
            int came = 0;
            for (int i = 0; i < ROOM * Instance.TIMERS; i++) {
                Instance who = nextDue();
                if (who == null || leastDue(who) > now) {
                    break;
                }
                fire(who);
                came++;
            }
            return came;
        }

        /** How long it is up to the next timer that is due, or -1: none is set. */
        int timeToGo() {
            Instance who = nextDue();
            return who == null ? -1 : Math.max(0, leastDue(who) - now);
        }

        private Instance nextDue() {
            Instance first = null;
            for (int i = 0; i < live && i < ROOM; i++) {
                Instance who = slots[i];
                if (who.timers > 0 && (first == null || leastDue(who) < leastDue(first))) {
                    first = who;
                }
            }
            return first;
        }

        private static int leastDue(Instance who) {
            int least = Integer.MAX_VALUE;
            for (int i = 0; i < who.timers && i < Instance.TIMERS; i++) {
                least = Math.min(least, who.timerDues[i]);
            }
            return least;
        }

        private void fire(Instance who) {
            int least = leastDue(who);
            int i = 0;
            while (i < who.timers - 1 && i < Instance.TIMERS - 1 && who.timerDues[i] != least) {
                i++;
            }
            int name = who.timerNames[i];
            who.dropTimer(i);
            trace.add(Trace.DUE, who.id, name, 0, who.process, Trace.LEFT_OUT);
            if (!who.accept(name, 0, who.id, Trace.LEFT_OUT)) {
                lose(who.id, name, 0);
            }
        }

        /** Writes the state of all into a row of PACKED ints; answers how many it took. */
        int pack(int[] into) {
            if (into.length < PACKED) {
                return 0;
            }
            into[0] = given;
            into[1] = live;
            int at = 2;
            for (int i = 0; i < live && i < ROOM; i++) {
                at = slots[i].pack(into, at, now, plan.countVariables(slots[i].process));
            }
            return at;
        }

        /** Becomes the state that was packed, with nothing lost or thrown away yet. */
        void unpack(Plan ofPlan, int[] row, int from, int time) {
            plan = ofPlan;
            lost = 0;
            thrown = 0;
            now = time;
            if (from < 0 || from > row.length - PACKED) {
                return;
            }
            given = row[from];
            live = Math.max(0, Math.min(row[from + 1], ROOM));
            int at = from + 2;
            for (int i = 0; i < live; i++) {
                at = slots[i].unpack(row, at, time, ofPlan);
            }
        }

        boolean hasIn(int process, int state) {
            for (int i = 0; i < live && i < ROOM; i++) {
                if (slots[i].process == process && slots[i].state == state) {
                    return true;
                }
            }
            return false;
        }
    }

    /** Walks through all turns in breadth. Its rows are made once, and the pool grows only when it must. */
    static final class Walker {
        static final int STUCK = 0;
        static final int LOSING = 1;
        static final int THROWING = 2;
        static final int BEING_IN = 3;
        private static final int MOST_STATES = 1000;
        private static final int HIGHEST_ID = 60;
        private static final int TIME = -1;
        private static final int GO_ON = 0;
        private static final int FOUND = 1;
        private static final int TOO_MUCH = 2;
        private static final int NEW = 3;
        private static final int TABLE = 2048;

        private final World scratch;
        private int[] pool;
        private final int[] begins;
        private final int[] times;
        private final int[] origins;
        private final int[] deeds;
        private final int[] hashes;
        private final int[] table;
        private final int[] packed;
        private int states;
        private int what;
        private int process;
        private int state;
        final int[] row;
        int rowLength;
        int seen;

        Walker(Plan plan) {
            scratch = new World(plan, new Trace(0));
            pool = new int[4096];
            begins = new int[MOST_STATES + 1];
            times = new int[MOST_STATES];
            origins = new int[MOST_STATES];
            deeds = new int[MOST_STATES];
            hashes = new int[MOST_STATES];
            table = new int[TABLE];
            packed = new int[World.PACKED];
            row = new int[MOST_STATES];
            rowLength = 0;
            seen = 0;
        }

        /** Answers how many acts the row has, -1 or -2. */
        int search(World world, int lookedFor, int ofProcess, int inState) {
            what = lookedFor;
            process = ofProcess;
            state = inState;
            states = 0;
            rowLength = 0;
            Arrays.fill(table, -1);
            int size = world.pack(packed);
            remember(size, hash(size), -1, TIME, world.now);
            scratch.unpack(world.plan, pool, 0, world.now);
            int outcome = isLookedFor() ? FOUND : GO_ON;
            for (int i = 0; i < states && i < MOST_STATES && outcome == GO_ON; i++) {
                outcome = expand(world.plan, i);
            }
            seen = outcome == TOO_MUCH ? MOST_STATES : states;
            if (outcome == FOUND) {
                return rowLength;
            }
            return outcome == TOO_MUCH ? -2 : -1;
        }

        /** Does from a state all that can be done in it: a turn of each instance, or else TIME. */
        private int expand(Plan plan, int from) {
            scratch.unpack(plan, pool, begins[from], times[from]);
            int many = scratch.live;
            boolean idle = true;
            boolean moved = false;
            for (int i = 0; i <= many && i <= World.ROOM; i++) {
                if (moved) {
                    scratch.unpack(plan, pool, begins[from], times[from]);
                }
                int given = scratch.given;
                int deed = TIME;
                if (i < many && i < World.ROOM) {
                    deed = scratch.slots[i].id;
                    moved = scratch.takeTurn(scratch.slots[i]) != World.NOTHING;
                    idle = idle && !moved;
                } else {
                    int wait = scratch.timeToGo();
                    moved = idle && wait >= 0;
                    if (moved) {
                        scratch.goOn(wait);
                    }
                }
                int outcome = moved ? meet(from, deed, given) : GO_ON;
                if (outcome == NEW) {
                    outcome = isLookedFor() ? FOUND : GO_ON;
                }
                if (outcome == FOUND) {
                    tellRow(from, deed);
                }
                if (outcome != GO_ON) {
                    return outcome;
                }
            }
            return GO_ON;
        }

        /** Looks at what an act made of the state that it was done in. */
        private int meet(int from, int deed, int givenBefore) {
            if (scratch.given > givenBefore && scratch.given > HIGHEST_ID + 1) {
                return TOO_MUCH;
            }
            int size = scratch.pack(packed);
            int hash = hash(size);
            boolean known = isKnown(size, hash);
            if (!known) {
                if (states >= MOST_STATES) {
                    return TOO_MUCH;
                }
                remember(size, hash, from, deed, scratch.now);
            }
            if (what == LOSING && scratch.lost > 0 || what == THROWING && scratch.thrown > 0) {
                return FOUND;
            }
            return known ? GO_ON : NEW;
        }

        /** Whether the state that the scratch world is in is one that is looked for, whatever act led to it. */
        private boolean isLookedFor() {
            if (what == BEING_IN) {
                return scratch.hasIn(process, state);
            }
            if (what != STUCK || scratch.timeToGo() >= 0) {
                return false;
            }
            for (int i = 0; i < scratch.live && i < World.ROOM; i++) {
                if (scratch.choose(scratch.slots[i]) != World.NOTHING) {
                    return false;
                }
            }
            return true;
        }

        private void tellRow(int from, int deed) {
            int length = 1;
            for (int at = from; at > 0 && at < MOST_STATES && length < MOST_STATES; at = origins[at]) {
                length++;
            }
            rowLength = length;
            row[length - 1] = deed;
            int at = from;
            for (int i = length - 2; i >= 0 && at > 0 && at < MOST_STATES; i--) {
                row[i] = deeds[at];
                at = origins[at];
            }
        }

        private int hash(int size) {
            int hash = size;
            for (int i = 0; i < size && i < packed.length; i++) {
                hash = hash * 31 + packed[i];
                hash ^= hash >>> 15;
            }
            return hash;
        }

        private boolean isKnown(int size, int hash) {
            int slot = hash & (TABLE - 1);
            for (int i = 0; i < TABLE && table[slot] >= 0; i++) {
                int known = table[slot];
                if (known < MOST_STATES && hashes[known] == hash && isPacked(known, size)) {
                    return true;
                }
                slot = (slot + 1) & (TABLE - 1);
            }
            return false;
        }

        private boolean isPacked(int known, int size) {
            int begin = begins[known];
            if (begins[known + 1] - begin != size || begin < 0 || begin > pool.length - size || size > packed.length) {
                return false;
            }
            for (int i = 0; i < size; i++) {
                if (pool[begin + i] != packed[i]) {
                    return false;
                }
            }
            return true;
        }

        private void remember(int size, int hash, int from, int deed, int time) {
            if (states < 0 || states >= MOST_STATES || size < 0 || size > packed.length) {
                return;
            }
            int begin = states == 0 ? 0 : begins[states];
            makeRoom(begin);
            if (begin < 0 || begin > pool.length - size) {
                return;
            }
            System.arraycopy(packed, 0, pool, begin, size);
            begins[states] = begin;
            begins[states + 1] = begin + size;
            times[states] = time;
            origins[states] = from;
            deeds[states] = deed;
            hashes[states] = hash;
            int slot = hash & (TABLE - 1);
            for (int i = 0; i < TABLE && table[slot] >= 0; i++) {
                slot = (slot + 1) & (TABLE - 1);
            }
            table[slot] = states;
            states++;
        }

        /** Behind each begin there is room for the largest state, so that a state is read without asking. */
        private void makeRoom(int begin) {
            int need = begin + World.PACKED;
            if (need > pool.length && need <= MOST_STATES * World.PACKED) {
                pool = Arrays.copyOf(pool, Math.min(Math.max(need, 2 * pool.length), MOST_STATES * World.PACKED));
            }
        }
    }

    /** A chart of messages. Event 2 m is that message m is sent, 2 m + 1 that it is taken. */
    static final class Chart {
        private static final int MESSAGES = 40;
        private static final int EVENTS = 2 * MESSAGES;
        private static final int LINES = 8;
        private static final int RACES = EVENTS * (EVENTS - 1) / 2;
        // A name of a line that is no name.
        private static final int OUT = -2;

        private final Names names;
        private final int[] lineNames;
        private int lines;
        private final int[] froms;
        private final int[] tos;
        private final int[] signals;
        int length;
        // Which events are before each: bit e of the low ones for event e, of the high ones for event 64 + e.
        private final long[] low;
        private final long[] high;
        private final boolean[] done;
        final int[] raceFirsts;
        final int[] raceOthers;
        int raceCount;

        Chart() {
            names = new Names(LINES + MESSAGES);
            lineNames = new int[LINES];
            lines = 0;
            froms = new int[MESSAGES];
            tos = new int[MESSAGES];
            signals = new int[MESSAGES];
            length = 0;
            low = new long[EVENTS];
            high = new long[EVENTS];
            done = new boolean[EVENTS];
            raceFirsts = new int[RACES];
            raceOthers = new int[RACES];
            raceCount = 0;
        }

        /** Answers the place of what can't stand, or -1. */
        int read(Tokens tokens) {
            names.cut(0);
            lines = 0;
            length = 0;
            int at = 0;
            for (int i = 0; i < MESSAGES && tokens.kindAt(at) != Tokens.FINISH; i++) {
                int bad = readMessage(tokens, at);
                if (bad >= 0) {
                    return tokens.placeAt(bad);
                }
                at += 6;
            }
            if (tokens.kindAt(at) != Tokens.FINISH) {
                return tokens.placeAt(at);
            }
            findRaces();
            return -1;
        }

        /** A message has six tokens; answers which can't stand, or -1. */
        private int readMessage(Tokens tokens, int at) {
            int from = readLine(tokens, at);
            if (from < 0) {
                return at;
            }
            if (tokens.kindAt(at + 1) != '>') {
                return at + 1;
            }
            int to = readLine(tokens, at + 2);
            if (to < 0 || from == to && lineNames[to] == OUT) {
                return at + 2;
            }
            if (tokens.kindAt(at + 3) != ':') {
                return at + 3;
            }
            if (tokens.kindAt(at + 4) != Tokens.NAME) {
                return at + 4;
            }
            if (tokens.kindAt(at + 5) != ';') {
                return at + 5;
            }
            if (length >= 0 && length < MESSAGES) {
                froms[length] = from;
                tos[length] = to;
                signals[length] = names.keep(tokens.headAt(at + 4), tokens.tailAt(at + 4));
                length++;
            }
            return -1;
        }

        private int readLine(Tokens tokens, int at) {
            int kind = tokens.kindAt(at);
            if (kind != Tokens.NAME && kind != Tokens.OUT) {
                return -1;
            }
            int name = kind == Tokens.OUT ? OUT : names.keep(tokens.headAt(at), tokens.tailAt(at));
            int known = findLine(name);
            if (known >= 0 || lines < 0 || lines >= LINES) {
                return known;
            }
            lineNames[lines] = name;
            lines++;
            return lines - 1;
        }

        private int findLine(int name) {
            for (int i = 0; i < lines && i < LINES; i++) {
                if (lineNames[i] == name) {
                    return i;
                }
            }
            return -1;
        }

        private int lineOf(int event) {
            int message = event >> 1;
            if (message < 0 || message >= MESSAGES) {
                return -1;
            }
            return (event & 1) == 0 ? froms[message] : tos[message];
        }

        private void findRaces() {
            raceCount = 0;
            for (int event = 0; event < 2 * length && event < EVENTS; event++) {
                order(event);
            }
            for (int first = 0; first < 2 * length && first < EVENTS; first++) {
                for (int other = first + 1; other < 2 * length && other < EVENTS; other++) {
                    if ((other & 1) == 1 && lineOf(first) == lineOf(other) && !isBefore(first, other)
                            && raceCount < RACES) {
                        raceFirsts[raceCount] = first;
                        raceOthers[raceCount] = other;
                        raceCount++;
                    }
                }
            }
        }

        /** On its line and in its message, what is ahead of an event has the less number: one pass is enough. */
        private void order(int event) {
            if (event < 0 || event >= EVENTS) {
                return;
            }
            low[event] = 0;
            high[event] = 0;
            boolean taken = (event & 1) == 1;
            for (int ahead = 0; ahead < event; ahead++) {
                if (taken ? ahead == event - 1 : lineOf(ahead) == lineOf(event)) {
                    low[event] |= low[ahead] | (ahead < 64 ? 1L << ahead : 0);
                    high[event] |= high[ahead] | (ahead < 64 ? 0 : 1L << (ahead - 64));
                }
            }
        }

        private boolean isBefore(int first, int other) {
            if (other < 0 || other >= EVENTS) {
                return false;
            }
            long bit = first < 64 ? low[other] >>> first : high[other] >>> (first - 64);
            return (bit & 1) == 1;
        }

        boolean isRun(Trace trace, Plan plan) {
            if (trace.missed) {
                return false;
            }
            for (int event = 0; event < EVENTS; event++) {
                done[event] = false;
            }
            for (int i = 0; i < trace.length && i < trace.kinds.length; i++) {
                int kind = trace.kinds[i];
                boolean counts = (kind == Trace.SENT || kind == Trace.TAKEN) && trace.peers[i] != Trace.LEFT_OUT;
                if (counts && !doNext(trace, i, plan)) {
                    return false;
                }
            }
            for (int event = 0; event < 2 * length && event < EVENTS; event++) {
                if (!done[event]) {
                    return false;
                }
            }
            return true;
        }

        /** Answers whether event i of the trace is the next one on its line. */
        private boolean doNext(Trace trace, int i, Plan plan) {
            if (i < 0 || i >= trace.kinds.length) {
                return false;
            }
            int line = lineOfProcess(plan, trace.owners[i]);
            int event = 0;
            while (event < 2 * length && event < EVENTS && (done[event] || lineOf(event) != line)) {
                event++;
            }
            if (line < 0 || event >= 2 * length || event >= EVENTS || (event & 1) != trace.kinds[i]) {
                return false;
            }
            int message = event >> 1;
            int peer = lineOfProcess(plan, trace.peers[i]);
            int peerLine = (event & 1) == 0 ? tos[message] : froms[message];
            if (peer != peerLine || plan.names.findIn(names, trace.names[i]) != signals[message]) {
                return false;
            }
            done[event] = true;
            if ((event & 1) == 0 && peer == findLine(OUT)) {
                done[event + 1] = true;
            }
            return true;
        }

        private int lineOfProcess(Plan plan, int process) {
            if (process == Trace.OUTSIDE) {
                return findLine(OUT);
            }
            int name = plan.names.findIn(names, plan.nameOf(process));
            return name < 0 ? -1 : findLine(name);
        }
    }
}
