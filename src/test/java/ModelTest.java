import java.util.ArrayDeque;
import java.util.ArrayList;
import java.util.Arrays;
import java.util.HashMap;
import java.util.HashSet;
import java.util.List;
import java.util.Map;
import java.util.Random;
import java.util.Set;
import java.util.TreeMap;

/**
 * Compares the class with a model of it that is written the plain way (trees, lists, texts as keys),
 * over systems, charts and calls drawn with written seeds.
 */
public final class ModelTest {
    private static final int SYSTEMS = 1000;

    public static void main(String[] args) {
        int systems = args.length > 0 ? Integer.parseInt(args[0]) : SYSTEMS;
        Checks checks = new Checks();
        Tally tally = new Tally();
        for (int seed = 1; seed <= systems; seed++) {
            new Session(seed, checks, tally).go();
        }
        everyToken(checks);
        System.out.println(tally.seen);
        // Draws that never come to the rare cases would compare nothing.
        for (String rare : Arrays.asList("walk -1", "walk -2", "walk found", "fits", "race", "lost", "thrown", "grammar", "double", "unknown", "stands")) {
            checks.same("drawn at least once: " + rare, "true", "" + tally.seen.containsKey(rare));
        }
        checks.finish();
    }

    /** Each token of a text left out, twice there, or with each other kind of token ahead of it or in its place. */
    private static void everyToken(Checks checks) {
        String[] texts = {
            "process a ( 1 ) { let x = 3 ; let y = 4 ; start { next s ; } state s { on m ( x ) { } first n { } save k ; any { } when ( x ) { } } state r { } }",
            "process a ( 1 ) { let x = 3 ; start { x = - ( x + 2 ) * 3 ; send m ( x ) to b ; send m to out ; set t now + 1 ; reset t ; } }"
                + " process b ( 0 ) { start { make a ; say x ; if ( self == 1 ) { stop ; } else { if ( 1 < 2 ) { } } next s ; } state s { } }",
            "process b ( 0 ) { let x = 0 ; start { make b ; say x ; if ( self == 1 ) { stop ; } else { if ( x ) { } } next s ; } state s { } }"};
        String[] charts = {"a > b : m ; b > out : n ; out > a : k ;"};
        String[] others = ("{ } ( ) ; , = == < + - * > : # 7 1000001 x s m a tooLongForName process let start state on first save when any"
            + " send to set reset make next stop say if else sender self parent child out now").split(" ");
        for (String text : texts) {
            for (String variant : variants(text.split(" "), others)) {
                checks.due("system " + variant, new Model().system(variant), () -> Checks.system(new ChartHouse(), variant));
            }
        }
        for (String text : charts) {
            for (String variant : variants(text.split(" "), others)) {
                checks.due("chart " + variant, new Model().chart(variant), () -> Checks.chart(new ChartHouse(), variant));
            }
        }
    }

    private static List<String> variants(String[] tokens, String[] others) {
        List<String> all = new ArrayList<>();
        for (int i = 0; i < tokens.length; i++) {
            String head = String.join(" ", Arrays.copyOfRange(tokens, 0, i));
            String tail = String.join(" ", Arrays.copyOfRange(tokens, i + 1, tokens.length));
            all.add(head);
            all.add(head + " " + tail);
            all.add(head + " " + tokens[i] + " " + tokens[i] + " " + tail);
            for (String other : others) {
                all.add(head + " " + other + " " + tail);
                all.add(head + " " + other + " " + tokens[i] + " " + tail);
            }
            for (int k = i + 1; k < tokens.length && k < i + 6; k++) {
                all.add(head + " " + String.join(" ", Arrays.copyOfRange(tokens, k, tokens.length)));
            }
        }
        return all;
    }

    static final class Tally {
        final Map<String, Integer> seen = new TreeMap<>();

        void note(String what) {
            seen.merge(what, 1, Integer::sum);
        }
    }

    // ---------------------------------------------------------------- one object and its model

    static final class Session {
        /** A call on the object that is asked just now: a session uses several, one behind the other. */
        interface Asked {
            long of(ChartHouse house);
        }

        static final int MOST_CALLS = 512;
        // Behind this many told calls there is room for one more of any kind and for what is then looked at.
        static final int TOLD_CALLS = 250;

        final Random random;
        final Checks checks;
        final Tally tally;
        final int seed;
        final Model model = new Model();
        final StringBuilder log = new StringBuilder();
        ChartHouse house = new ChartHouse();
        int calls;
        // What changed something, so that a new object can be brought to where the old one is.
        final List<Asked> told = new ArrayList<>();
        final List<Integer> costs = new ArrayList<>();
        int toldCalls;
        int latestWalk = -1;
        int latestChart = -1;

        Session(int seed, Checks checks, Tally tally) {
            this.seed = seed;
            this.random = new Random(seed);
            this.checks = checks;
            this.tally = tally;
        }

        void go() {
            boolean begun = false;
            for (int i = 0; i < 4 && !begun; i++) {
                begun = system();
            }
            for (int i = 0; i < 40 && toldCalls < TOLD_CALLS; i++) {
                step();
            }
            observe();
        }

        boolean system() {
            String text = new Draw(random).system();
            long answer = ask("system " + text, onTape(text), () -> model.system(text), x -> Checks.system(x, text));
            tally.note(answer >= 0 ? "stands" : model.faultKind);
            if (answer >= 0) {
                tell(onTape(text), x -> Checks.system(x, text));
            }
            return answer > 0;
        }

        void step() {
            int n = random.nextInt(100);
            int id = random.nextInt(10) == 0 ? random.nextInt(14) - 1 : model.anId(random);
            if (n < 22) {
                String name = Draw.pick(random, Draw.SIGNALS);
                int value = random.nextInt(6) - 1;
                both("outside " + id + " " + name + " " + value, onTape(name), () -> model.outside(id, name, value),
                    x -> Checks.outside(x, id, name, value));
            } else if (n < 50) {
                both("turn " + id, 1, () -> model.turn(id), x -> x.turn(id));
            } else if (n < 66) {
                int many = random.nextInt(8);
                both("run " + many, 1, () -> model.run(many), x -> x.run(many));
            } else if (n < 78) {
                int more = random.nextInt(5);
                both("time " + more, 1, () -> model.time(more), x -> x.time(more));
            } else if (n < 86) {
                walk();
            } else if (n < 94) {
                chart();
            } else if (n < 96) {
                both("begin", 1, () -> model.begin(), x -> x.begin());
            } else if (n < 97) {
                system();
            } else {
                String name = Draw.pick(random, Draw.VARIABLES);
                ask("variable " + id + " " + name, onTape(name), () -> model.variable(id, name), x -> Checks.variable(x, id, name));
            }
            counts();
        }

        void walk() {
            int what = random.nextInt(4);
            int p = random.nextInt(3);
            int s = random.nextInt(4);
            long answer = ask("walk " + what + " " + p + " " + s, 1, () -> model.walk(what, p, s), x -> x.walk(what, p, s));
            if (answer >= -2) {
                forget(latestWalk);
                tell(1, x -> x.walk(what, p, s));
                latestWalk = told.size() - 1;
            }
            tally.note(answer >= 0 ? "walk found" : answer < -2 ? "walk refused" : "walk " + answer);
            for (int i = 0; i < model.row.size(); i++) {
                int at = i;
                same("act " + i, 1, model.row.get(i), x -> x.act(at));
            }
        }

        void chart() {
            String text = random.nextInt(3) > 0 ? model.chartOfTrace(random) : new Draw(random).chart();
            if (text.length() > 1900) {
                return;
            }
            long answer = ask("chart " + text, onTape(text), () -> model.chart(text), x -> Checks.chart(x, text));
            if (answer >= 0) {
                forget(latestChart);
                tell(onTape(text), x -> Checks.chart(x, text));
                latestChart = told.size() - 1;
            }
            long fits = ask("fits", 1, () -> model.fits() ? 1 : 0, x -> x.fits() ? 1 : 0);
            if (fits == 1 && !model.messages.isEmpty()) {
                tally.note("fits");
            }
            long races = ask("races", 1, () -> model.races().size(), x -> x.races());
            List<int[]> due = races > 0 ? model.races() : List.of();
            for (int i = 0; i < races; i++) {
                int race = i;
                tally.note("race");
                same("race first", 1, due.get(i)[0], x -> x.race(race, 0));
                same("race other", 1, due.get(i)[1], x -> x.race(race, 1));
            }
        }

        void counts() {
            long[] want = model.counts();
            for (int what = 2; what < want.length; what++) {
                int asked = what;
                same("count " + what, 1, want[what], x -> x.count(asked));
            }
            if (want[9] > 0) {
                tally.note("lost");
            }
            if (want[10] > 0) {
                tally.note("thrown");
            }
        }

        void observe() {
            if (model.system == null) {
                return;
            }
            List<String> events = model.events();
            for (int i = 0; i < events.size(); i++) {
                // An event as a text takes five calls, and one for each byte of its name.
                need(5 + 12);
                same("event " + i, events.get(i), Checks.event(house, i));
            }
            for (Model.Inst who : model.alive) {
                need(1 + 8 * (4 + 12));
                same("queue of " + who.id, who.queueText(), Checks.queue(house, who.id));
                for (int what = 0; what < 7; what++) {
                    int asked = what;
                    same("look " + who.id + " " + what, 1, model.look(who, what), x -> x.look(who.id, asked));
                }
                for (String name : who.values.keySet()) {
                    same("variable " + name, onTape(name), who.values.get(name), x -> Checks.variable(x, who.id, name));
                }
            }
        }

        /** How many calls it takes to bring a text to the tape and to have it read. */
        static int onTape(String text) {
            return (text.length() + 19) / 20 + 2;
        }

        /** A call that changes something. */
        long both(String what, int cost, Checks.Call wanted, Asked asked) {
            long answer = ask(what, cost, wanted, asked);
            tell(cost, asked);
            return answer;
        }

        long ask(String what, int cost, Checks.Call wanted, Asked asked) {
            log.append("\n").append(what);
            String want = Checks.answerOf(wanted);
            log.append(" -> ").append(want);
            need(cost);
            same(what, want, Checks.answerOf(() -> asked.of(house)));
            return want.startsWith("throws") ? Long.MIN_VALUE : Long.parseLong(want);
        }

        void tell(int cost, Asked asked) {
            told.add(asked);
            costs.add(cost);
            toldCalls += cost;
        }

        /** A walk and a chart leave nothing behind when the next one comes. */
        void forget(int index) {
            if (index >= 0) {
                toldCalls -= costs.get(index);
                told.set(index, x -> 0);
                costs.set(index, 0);
            }
        }

        /** Behind its 512th call nothing is promised of an object, so a new one takes its place in time. */
        void need(int cost) {
            if (calls + cost > MOST_CALLS) {
                house = new ChartHouse();
                for (Asked asked : told) {
                    Checks.answerOf(() -> asked.of(house));
                }
                calls = toldCalls;
            }
            calls += cost;
        }

        void same(String what, int cost, long want, Asked asked) {
            need(cost);
            same(what, "" + want, Checks.answerOf(() -> asked.of(house)));
        }

        void same(String what, String want, String got) {
            checks.same("seed " + seed + " " + what + (want.equals(got) ? "" : log.toString()), want, got);
            if (!want.equals(got)) {
                checks.finish();
            }
        }
    }

    // ---------------------------------------------------------------- drawn texts

    static final class Draw {
        static final String[] SIGNALS = {"m", "n", "k", "t", "longestname1"};
        static final String[] VARIABLES = {"x", "y", "z"};
        static final String[] PROCESSES = {"a", "b", "c"};
        static final String[] STATES = {"s", "r", "q", "m"};
        final Random random;
        final StringBuilder text = new StringBuilder();
        int processes;
        int variables;
        int states;
        boolean sloppy;

        Draw(Random random) {
            this.random = random;
        }

        static String pick(Random random, String[] from) {
            return from[random.nextInt(from.length)];
        }

        String some(String[] all, int known) {
            int most = sloppy && random.nextInt(25) == 0 ? all.length : Math.max(1, Math.min(known, all.length));
            return all[random.nextInt(most)];
        }

        boolean one(int of) {
            return random.nextInt(of) == 0;
        }

        Draw put(String part) {
            text.append(part).append(one(9) ? "\n" : one(2) ? " " : "");
            return this;
        }

        Draw word(String part) {
            text.append(part).append(one(9) ? "\n" : " ");
            return this;
        }

        String system() {
            sloppy = one(6);
            processes = 1 + random.nextInt(3);
            for (int i = 0; i < processes; i++) {
                process(i);
            }
            String whole = text.length() > 2000 ? text.substring(0, 2000) : text.toString();
            return one(5) ? spoil(whole) : whole;
        }

        String spoil(String whole) {
            String[] parts = {"{", "}", "(", ")", ";", ",", "=", "==", "<", "+", "-", "*", ">", ":", " on ", " any ", " x ",
                " 5 ", " 1000001 ", "#", " next ", " if ", " else ", " stop; ", " process ", " state ", "--------", "((((", ""};
            int from = random.nextInt(whole.length() + 1);
            int to = Math.min(whole.length(), from + random.nextInt(3));
            String spoilt = whole.substring(0, from) + pick(random, parts) + whole.substring(to);
            return spoilt.length() > 2000 ? spoilt.substring(0, 2000) : spoilt;
        }

        void process(int i) {
            variables = random.nextInt(4);
            states = 1 + random.nextInt(3);
            word("process").put(sloppy ? some(PROCESSES, i + 1) : PROCESSES[i]).put("(");
            put("" + (i == 0 ? 1 + random.nextInt(2) : random.nextInt(3))).put(")").put("{");
            for (int v = 0; v < variables; v++) {
                word("let").put(sloppy && one(9) ? pick(random, VARIABLES) : VARIABLES[v]).put("=").put("" + random.nextInt(4)).put(";");
            }
            word("start").block(2, true);
            for (int s = 0; s < states; s++) {
                word("state").put(sloppy && one(9) ? pick(random, STATES) : STATES[s]).put("{");
                clauses();
                put("}");
            }
            put("}");
        }

        void clauses() {
            List<String> left = new ArrayList<>(List.of(SIGNALS));
            int many = random.nextInt(sloppy && one(6) ? 11 : 6);
            boolean any = false;
            for (int i = 0; i < many; i++) {
                int kind = random.nextInt(8);
                if (kind == 0 && (!any || sloppy)) {
                    any = true;
                    word("any").block(2, false);
                } else if (kind == 1) {
                    word("when").put("(");
                    expression(2);
                    put(")").block(2, false);
                } else if (!left.isEmpty() || sloppy) {
                    String signal = left.isEmpty() || sloppy && one(9) ? pick(random, SIGNALS) : left.remove(random.nextInt(left.size()));
                    if (kind == 2) {
                        word("save").put(signal).put(";");
                    } else {
                        word(kind == 3 ? "first" : "on").put(signal);
                        if (variables > 0 && one(2)) {
                            put("(").put(some(VARIABLES, variables)).put(")");
                        }
                        block(3, false);
                    }
                }
            }
        }

        Draw block(int most, boolean start) {
            put("{");
            int many = random.nextInt(most + 1);
            for (int i = 0; i < many; i++) {
                act(most);
            }
            if (start && !one(8) || one(4)) {
                word("next").put(some(STATES, states)).put(";");
            }
            return put("}");
        }

        void act(int most) {
            int kind = random.nextInt(14);
            if (kind < 2 && variables > 0) {
                put(some(VARIABLES, variables)).put("=");
                expression(2);
                put(";");
            } else if (kind < 7) {
                word("send").put(pick(random, SIGNALS));
                if (one(2)) {
                    put("(");
                    expression(2);
                    put(")");
                }
                text.append(' ');
                String[] targets = {"sender", "self", "parent", "child", "out", null, null, null};
                String target = pick(random, targets);
                word("to").put(target == null ? some(PROCESSES, processes) : target).put(";");
            } else if (kind < 9) {
                word("set").word(pick(random, SIGNALS));
                expression(1);
                put(";");
            } else if (kind == 9) {
                word("reset").put(pick(random, SIGNALS)).put(";");
            } else if (kind == 10) {
                word("make").put(some(PROCESSES, processes)).put(";");
            } else if (kind == 11) {
                word("say");
                expression(3);
                put(";");
            } else if (kind == 12 && one(3)) {
                word("stop").put(";");
            } else if (most > 0) {
                word("if").put("(");
                expression(2);
                put(")").block(most - 1, false);
                if (one(2)) {
                    word("else").block(most - 1, false);
                }
            }
        }

        void expression(int depth) {
            sum(depth);
            if (one(3)) {
                put(one(2) ? "==" : "<");
                sum(depth);
            }
        }

        void sum(int depth) {
            product(depth);
            while (one(4)) {
                put(one(2) ? "+" : "-");
                product(depth);
            }
        }

        void product(int depth) {
            simple(depth);
            while (one(6)) {
                put("*");
                simple(depth);
            }
        }

        void simple(int depth) {
            int kind = random.nextInt(10);
            String[] words = {"now", "self", "sender", "parent", "child"};
            if (kind < 4 && variables > 0) {
                put(some(VARIABLES, variables));
            } else if (kind < 6) {
                put(pick(random, words));
            } else if (kind == 6 && depth > 0) {
                put("-").simple(depth - 1);
            } else if (kind == 7 && depth > 0) {
                put("(").expression(depth - 1);
                put(")");
            } else {
                put("" + (one(12) ? 1000000 : random.nextInt(5)));
            }
        }

        String chart() {
            String[] ends = {"a", "b", "c", "out", "d"};
            int many = one(4) ? 30 + random.nextInt(12) : random.nextInt(9);
            for (int i = 0; i < many; i++) {
                String from = pick(random, ends);
                String to = pick(random, ends);
                if (from.equals("out") && to.equals("out") && !one(4)) {
                    to = "a";
                }
                put(from).put(">").put(to).put(":").put(pick(random, SIGNALS)).put(";");
            }
            String whole = text.toString();
            return one(5) ? spoil(whole) : whole;
        }
    }

    // ---------------------------------------------------------------- the model

    static final class Fault extends RuntimeException {
        private static final long serialVersionUID = 1;
        final int place;

        Fault(int place) {
            super("fault", null, false, false);
            this.place = place;
        }
    }

    record Token(String kind, String text, int place) {
    }

    record Node(String kind, String name, int place, List<Node> parts) {
        Node part(int i) {
            return parts.get(i);
        }
    }

    /** A grammar of nodes, by exceptions. */
    static final class Reader {
        static final Set<String> WORDS = new HashSet<>(List.of(("process let start state on first save when any send to set reset"
            + " make next stop say if else sender self parent child out now").split(" ")));
        final List<Token> tokens = new ArrayList<>();
        int at;

        Reader(String text) {
            int i = 0;
            while (i < text.length()) {
                char c = text.charAt(i);
                int from = i;
                if (c == ' ' || c == '\n') {
                    i++;
                    continue;
                }
                if (letter(c)) {
                    while (i < text.length() && (letter(text.charAt(i)) || digit(text.charAt(i)))) {
                        i++;
                    }
                    String name = text.substring(from, i);
                    tokens.add(new Token(WORDS.contains(name) ? name : name.length() > 12 ? "BAD" : "NAME", name, from));
                } else if (digit(c)) {
                    while (i < text.length() && digit(text.charAt(i))) {
                        i++;
                    }
                    String number = text.substring(from, i);
                    boolean large = new java.math.BigInteger(number).compareTo(java.math.BigInteger.valueOf(1000000)) > 0;
                    tokens.add(new Token(large ? "BAD" : "NUMBER", number, from));
                } else if (text.startsWith("==", i)) {
                    i += 2;
                    tokens.add(new Token("==", "==", from));
                } else {
                    i++;
                    tokens.add(new Token("{}();,=<+-*>:".indexOf(c) >= 0 ? "" + c : "BAD", "" + c, from));
                }
            }
            tokens.add(new Token("END", "", text.length()));
        }

        static boolean letter(char c) {
            return c >= 'a' && c <= 'z' || c >= 'A' && c <= 'Z';
        }

        static boolean digit(char c) {
            return c >= '0' && c <= '9';
        }

        boolean is(String kind) {
            return tokens.get(at).kind.equals(kind);
        }

        Token take(String kind) {
            if (!is(kind)) {
                throw new Fault(tokens.get(at).place);
            }
            return tokens.get(at++);
        }

        boolean may(String kind) {
            if (is(kind)) {
                at++;
                return true;
            }
            return false;
        }

        static Node node(String kind, Token token, Node... parts) {
            return new Node(kind, token.text, token.place, new ArrayList<>(List.of(parts)));
        }

        Node system() {
            Node all = new Node("system", "", 0, new ArrayList<>());
            while (!is("END")) {
                all.parts.add(process());
            }
            return all;
        }

        Node process() {
            take("process");
            Node process = node("process", take("NAME"));
            take("(");
            if (is("NUMBER") && Integer.parseInt(tokens.get(at).text) > 3) {
                throw new Fault(tokens.get(at).place);
            }
            process.parts.add(node("number", take("NUMBER")));
            take(")");
            take("{");
            Node lets = new Node("lets", "", 0, new ArrayList<>());
            while (may("let")) {
                Token name = take("NAME");
                take("=");
                lets.parts.add(node("let", name, node("number", take("NUMBER"))));
                take(";");
            }
            process.parts.add(lets);
            take("start");
            process.parts.add(block(0));
            Node states = new Node("states", "", 0, new ArrayList<>());
            while (may("state")) {
                Node state = node("state", take("NAME"));
                take("{");
                while (!is("}")) {
                    state.parts.add(clause());
                }
                take("}");
                states.parts.add(state);
            }
            process.parts.add(states);
            take("}");
            return process;
        }

        Node clause() {
            Token first = tokens.get(at);
            Node clause;
            switch (first.kind) {
                case "on":
                case "first":
                    at++;
                    clause = node(first.kind, first, node("signal", take("NAME")));
                    if (may("(")) {
                        clause.parts.add(node("into", take("NAME")));
                        take(")");
                    }
                    clause.parts.add(block(0));
                    return clause;
                case "save":
                    at++;
                    clause = node("save", first, node("signal", take("NAME")));
                    take(";");
                    return clause;
                case "any":
                    at++;
                    return node("any", first, block(0));
                case "when":
                    at++;
                    return node("when", first, bracketed(0), block(0));
                default:
                    throw new Fault(first.place);
            }
        }

        void deeper(int depth) {
            if (depth == 8) {
                throw new Fault(tokens.get(at).place);
            }
        }

        Node block(int depth) {
            deeper(depth);
            Node block = node("block", take("{"));
            while (!is("}")) {
                block.parts.add(act(depth + 1));
            }
            take("}");
            return block;
        }

        Node act(int depth) {
            Token first = tokens.get(at);
            Node act;
            switch (first.kind) {
                case "NAME":
                    at++;
                    take("=");
                    act = node("assign", first, expression(depth));
                    break;
                case "send":
                    at++;
                    act = node("send", take("NAME"));
                    act.parts.add(is("(") ? bracketed(depth) : new Node("number", "0", 0, List.of()));
                    take("to");
                    Token target = tokens.get(at);
                    if (!List.of("sender", "self", "parent", "child", "out", "NAME").contains(target.kind)) {
                        throw new Fault(target.place);
                    }
                    at++;
                    act.parts.add(node(target.kind, target));
                    break;
                case "set":
                    at++;
                    act = node("set", take("NAME"));
                    act.parts.add(expression(depth));
                    break;
                case "reset":
                case "make":
                case "next":
                    at++;
                    act = node(first.kind, take("NAME"));
                    break;
                case "stop":
                    at++;
                    act = node("stop", first);
                    break;
                case "say":
                    at++;
                    act = node("say", first, expression(depth));
                    break;
                case "if":
                    at++;
                    act = node("if", first, bracketed(depth), block(depth));
                    if (may("else")) {
                        act.parts.add(block(depth));
                    }
                    return act;
                default:
                    throw new Fault(first.place);
            }
            take(";");
            return act;
        }

        Node bracketed(int depth) {
            if (is("(")) {
                deeper(depth);
            }
            take("(");
            Node inner = expression(depth + 1);
            take(")");
            return inner;
        }

        Node expression(int depth) {
            Node left = sum(depth);
            if (is("==") || is("<")) {
                Token sign = tokens.get(at++);
                return node(sign.kind, sign, left, sum(depth));
            }
            return left;
        }

        Node sum(int depth) {
            Node left = product(depth);
            while (is("+") || is("-")) {
                Token sign = tokens.get(at++);
                left = node(sign.kind, sign, left, product(depth));
            }
            return left;
        }

        Node product(int depth) {
            Node left = simple(depth);
            while (is("*")) {
                Token sign = tokens.get(at++);
                left = node("*", sign, left, simple(depth));
            }
            return left;
        }

        Node simple(int depth) {
            Token first = tokens.get(at);
            switch (first.kind) {
                case "NUMBER":
                    at++;
                    return node("number", first);
                case "NAME":
                    at++;
                    return node("variable", first);
                case "now":
                case "self":
                case "sender":
                case "parent":
                case "child":
                    at++;
                    return node(first.kind, first);
                case "(":
                    return bracketed(depth);
                case "-":
                    deeper(depth);
                    at++;
                    return node("negative", first, simple(depth + 1));
                default:
                    throw new Fault(first.place);
            }
        }
    }

    record Signal(String name, int value, int sender, String origin) {
    }

    record Timer(String name, long due) {
    }

    record Event(int kind, int id, String name, int value, String owner, String peer) {
    }

    record Message(String from, String to, String name) {
    }

    static final class Model {
        static final class Inst {
            int id;
            int process;
            int state = -1;
            int parent = -1;
            int sender = -1;
            int child = -1;
            Map<String, Integer> values = new TreeMap<>();
            List<Signal> queue = new ArrayList<>();
            List<Timer> timers = new ArrayList<>();

            Inst copy() {
                Inst copy = new Inst();
                copy.id = id;
                copy.process = process;
                copy.state = state;
                copy.parent = parent;
                copy.sender = sender;
                copy.child = child;
                copy.values = new TreeMap<>(values);
                copy.queue = new ArrayList<>(queue);
                copy.timers = new ArrayList<>(timers);
                return copy;
            }

            String queueText() {
                StringBuilder text = new StringBuilder();
                for (Signal signal : queue) {
                    text.append(text.length() > 0 ? " " : "").append(signal.name + "(" + signal.value + ")" + signal.sender);
                }
                return text.toString();
            }

            String key(long now) {
                StringBuilder text = new StringBuilder();
                text.append(id + "/" + process + "/" + state + "/" + parent + "/" + sender + "/" + child + values + queueText());
                for (Timer timer : timers) {
                    text.append("!" + timer.name + (timer.due - now));
                }
                return text.toString();
            }
        }

        Node system;
        String faultKind = "";
        List<Inst> alive = new ArrayList<>();
        int given;
        long now;
        List<Event> trace = new ArrayList<>();
        int lost;
        int thrown;
        int lastRun;
        List<Integer> row = new ArrayList<>();
        int seen;
        List<Message> messages;

        // ---- reading

        int system(String text) {
            Node read;
            try {
                faultKind = "grammar";
                read = new Reader(text).system();
                faultKind = "double";
                doubles(read);
                faultKind = "unknown";
                unknowns(read);
            } catch (Fault fault) {
                return -1 - fault.place;
            }
            system = read;
            begin();
            return read.parts.size();
        }

        static void fresh(Set<String> known, String name, int limit, int place) {
            if (!known.add(name) || known.size() > limit) {
                throw new Fault(place);
            }
        }

        static void doubles(Node read) {
            Set<String> processes = new HashSet<>();
            for (Node process : read.parts) {
                fresh(processes, process.name, 6, process.place);
                Set<String> variables = new HashSet<>();
                for (Node let : process.part(1).parts) {
                    fresh(variables, let.name, 6, let.place);
                }
                Set<String> states = new HashSet<>();
                for (Node state : process.part(3).parts) {
                    fresh(states, state.name, 8, state.place);
                    Set<String> signals = new HashSet<>();
                    int clauses = 0;
                    for (Node clause : state.parts) {
                        clauses++;
                        if (clauses > 8) {
                            throw new Fault(clause.place);
                        }
                        if (clause.kind.equals("any")) {
                            fresh(signals, "*any*", 99, clause.place);
                        } else if (!clause.kind.equals("when")) {
                            fresh(signals, clause.part(0).name, 99, clause.part(0).place);
                        }
                    }
                }
            }
        }

        static void unknowns(Node read) {
            int least = Integer.MAX_VALUE;
            Set<String> processes = namesOf(read.parts);
            for (Node process : read.parts) {
                Set<String> variables = namesOf(process.part(1).parts);
                Set<String> states = namesOf(process.part(3).parts);
                ArrayDeque<Node> open = new ArrayDeque<>(List.of(process.part(2), process.part(3)));
                while (!open.isEmpty()) {
                    Node node = open.pop();
                    boolean bad = switch (node.kind) {
                        case "assign", "variable", "into" -> !variables.contains(node.name);
                        case "next" -> !states.contains(node.name);
                        case "make", "NAME" -> !processes.contains(node.name);
                        default -> false;
                    };
                    if (bad) {
                        least = Math.min(least, node.place);
                    }
                    for (Node part : node.parts) {
                        open.push(part);
                    }
                }
            }
            if (least < Integer.MAX_VALUE) {
                throw new Fault(least);
            }
        }

        static Set<String> namesOf(List<Node> nodes) {
            Set<String> names = new HashSet<>();
            for (Node node : nodes) {
                names.add(node.name);
            }
            return names;
        }

        // ---- running

        int begin() {
            need();
            alive = new ArrayList<>();
            given = 0;
            now = 0;
            trace = new ArrayList<>();
            lost = 0;
            thrown = 0;
            lastRun = -1;
            for (int p = 0; p < system.parts.size(); p++) {
                for (int i = 0; i < Integer.parseInt(system.part(p).part(0).name); i++) {
                    if (alive.size() < 8) {
                        create(p, -1);
                    }
                }
            }
            return alive.size();
        }

        void need() {
            if (system == null) {
                throw new IllegalStateException();
            }
        }

        int anId(Random random) {
            return alive.isEmpty() ? 0 : alive.get(random.nextInt(alive.size())).id;
        }

        Inst who(int id) {
            need();
            Inst who = find(id);
            if (who == null) {
                throw new java.util.NoSuchElementException();
            }
            return who;
        }

        Inst find(int id) {
            for (Inst who : alive) {
                if (who.id == id) {
                    return who;
                }
            }
            return null;
        }

        void create(int process, int parent) {
            Inst who = new Inst();
            who.id = given++;
            who.process = process;
            who.parent = parent;
            for (Node let : system.part(process).part(1).parts) {
                who.values.put(let.name, Integer.parseInt(let.part(0).name));
            }
            alive.add(who);
            note(4, who.id, system.part(process).name, parent, null, null);
        }

        void note(int kind, int id, String name, int value, String owner, String peer) {
            trace.add(new Event(kind, id, name, value, owner, peer));
        }

        void lose(int id, String name, int value) {
            lost++;
            note(3, id, name, value, null, null);
        }

        String processOf(Inst who) {
            return system.part(who.process).name;
        }

        int outside(int id, String name, int value) {
            Inst who = who(id);
            boolean came = who.queue.size() < 8;
            note(0, -1, name, value, "out", came ? processOf(who) : null);
            if (came) {
                who.queue.add(new Signal(name, value, -1, "out"));
            } else {
                lose(-1, name, value);
            }
            return came ? 1 : 0;
        }

        Node stateOf(Inst who) {
            return system.part(who.process).part(3).part(who.state);
        }

        static Node clauseFor(Node state, String kind, String signal) {
            for (Node clause : state.parts) {
                if (clause.kind.equals(kind) && (signal == null || clause.part(0).name.equals(signal))) {
                    return clause;
                }
            }
            return null;
        }

        int turn(int id) {
            return turn(who(id), true);
        }

        /** With really false it only says what the turn would be. */
        int turn(Inst who, boolean really) {
            if (who.state < 0) {
                if (really) {
                    String end = block(who, system.part(who.process).part(2));
                    if (end.equals("end")) {
                        stop(who);
                    }
                }
                return 1;
            }
            Node state = stateOf(who);
            for (Signal signal : who.queue) {
                Node clause = clauseFor(state, "first", signal.name);
                if (clause != null) {
                    return really ? take(who, signal, clause, 2) : 2;
                }
            }
            for (Signal signal : who.queue) {
                if (clauseFor(state, "save", signal.name) != null) {
                    continue;
                }
                Node clause = clauseFor(state, "on", signal.name);
                int kind = 3;
                if (clause == null) {
                    clause = clauseFor(state, "any", null);
                    kind = clause == null ? 5 : 4;
                }
                return really ? take(who, signal, clause, kind) : kind;
            }
            for (Node clause : state.parts) {
                if (clause.kind.equals("when") && value(who, clause.part(0)) != 0) {
                    if (really) {
                        block(who, clause.part(1));
                    }
                    return 6;
                }
            }
            return 0;
        }

        int take(Inst who, Signal signal, Node clause, int kind) {
            for (int i = 0; i < who.queue.size(); i++) {
                if (who.queue.get(i) == signal) {
                    who.queue.remove(i);
                    break;
                }
            }
            who.sender = signal.sender;
            note(kind == 5 ? 2 : 1, who.id, signal.name, signal.value, processOf(who), signal.origin);
            if (clause == null) {
                thrown++;
                return kind;
            }
            for (Node part : clause.parts) {
                if (part.kind.equals("into")) {
                    who.values.put(part.name, signal.value);
                }
            }
            block(who, clause.part(clause.parts.size() - 1));
            return kind;
        }

        void stop(Inst who) {
            note(5, who.id, "", 0, null, null);
            alive.remove(who);
        }

        /** How it ends: 'next', 'stop' or 'end'. */
        String block(Inst who, Node block) {
            for (Node act : block.parts) {
                switch (act.kind) {
                    case "assign": who.values.put(act.name, value(who, act.part(0))); break;
                    case "send": send(who, act); break;
                    case "set": set(who, act.name, value(who, act.part(0))); break;
                    case "reset": reset(who, act.name); break;
                    case "make": make(who, act.name); break;
                    case "say": note(7, who.id, "", value(who, act.part(0)), null, null); break;
                    case "next":
                        who.state = indexOf(system.part(who.process).part(3).parts, act.name);
                        return "next";
                    case "stop":
                        stop(who);
                        return "stop";
                    default:
                        String end = "end";
                        if (value(who, act.part(0)) != 0) {
                            end = block(who, act.part(1));
                        } else if (act.parts.size() > 2) {
                            end = block(who, act.part(2));
                        }
                        if (!end.equals("end")) {
                            return end;
                        }
                }
            }
            return "end";
        }

        static int indexOf(List<Node> nodes, String name) {
            for (int i = 0; i < nodes.size(); i++) {
                if (nodes.get(i).name.equals(name)) {
                    return i;
                }
            }
            throw new AssertionError(name);
        }

        void send(Inst who, Node act) {
            int value = value(who, act.part(0));
            Node target = act.part(1);
            Inst goal = null;
            switch (target.kind) {
                case "out":
                    note(0, who.id, act.name, value, processOf(who), "out");
                    return;
                case "sender": goal = find(who.sender); break;
                case "parent": goal = find(who.parent); break;
                case "child": goal = find(who.child); break;
                case "self": goal = who; break;
                default:
                    for (Inst other : alive) {
                        if (goal == null && processOf(other).equals(target.name)) {
                            goal = other;
                        }
                    }
            }
            if (goal == null || goal.queue.size() == 8) {
                note(0, who.id, act.name, value, processOf(who), null);
                lose(who.id, act.name, value);
            } else {
                note(0, who.id, act.name, value, processOf(who), processOf(goal));
                goal.queue.add(new Signal(act.name, value, who.id, processOf(who)));
            }
        }

        void set(Inst who, String name, int wait) {
            for (Timer timer : who.timers) {
                if (timer.name.equals(name)) {
                    reset(who, name);
                    break;
                }
            }
            if (who.timers.size() == 4) {
                lose(who.id, name, 0);
            } else {
                who.timers.add(new Timer(name, now + (wait < 1 ? 0 : wait > 1000000 ? 1000000 : wait)));
            }
        }

        void reset(Inst who, String name) {
            who.timers.removeIf(timer -> timer.name.equals(name));
            who.queue.removeIf(signal -> signal.name.equals(name) && signal.sender == who.id);
        }

        void make(Inst who, String name) {
            int same = 0;
            for (Inst other : alive) {
                same += processOf(other).equals(name) ? 1 : 0;
            }
            if (alive.size() == 8 || same == 4) {
                who.child = -1;
                lose(who.id, name, 0);
            } else {
                who.child = given;
                create(indexOf(system.parts, name), who.id);
            }
        }

        int value(Inst who, Node node) {
            switch (node.kind) {
                case "number": return Integer.parseInt(node.name);
                case "variable": return who.values.get(node.name);
                case "now": return (int) now;
                case "self": return who.id;
                case "sender": return who.sender;
                case "parent": return who.parent;
                case "child": return who.child;
                case "negative": return -value(who, node.part(0));
                case "+": return value(who, node.part(0)) + value(who, node.part(1));
                case "-": return value(who, node.part(0)) - value(who, node.part(1));
                case "*": return value(who, node.part(0)) * value(who, node.part(1));
                case "==": return value(who, node.part(0)) == value(who, node.part(1)) ? 1 : 0;
                case "<": return value(who, node.part(0)) < value(who, node.part(1)) ? 1 : 0;
                default: throw new AssertionError(node.kind);
            }
        }

        int run(int n) {
            need();
            for (int done = 0; done < n; done++) {
                Inst next = null;
                Inst least = null;
                for (Inst who : alive) {
                    if (turn(who, false) != 0) {
                        least = least == null ? who : least;
                        next = next == null && who.id > lastRun ? who : next;
                    }
                }
                next = next == null ? least : next;
                if (next == null) {
                    return done;
                }
                lastRun = next.id;
                turn(next, true);
            }
            return n;
        }

        int time(long n) {
            need();
            now += n;
            int came = 0;
            while (true) {
                Inst whose = null;
                Timer first = null;
                for (Inst who : alive) {
                    for (Timer timer : who.timers) {
                        if (timer.due <= now && (first == null || timer.due < first.due)) {
                            first = timer;
                            whose = who;
                        }
                    }
                }
                if (first == null) {
                    return came;
                }
                came++;
                whose.timers.remove(first);
                note(6, whose.id, first.name, 0, null, null);
                if (whose.queue.size() == 8) {
                    lose(whose.id, first.name, 0);
                } else {
                    whose.queue.add(new Signal(first.name, 0, whose.id, null));
                }
            }
        }

        int variable(int id, String name) {
            Inst who = who(id);
            if (!who.values.containsKey(name)) {
                throw new UnsupportedOperationException();
            }
            return who.values.get(name);
        }

        int look(Inst who, int what) {
            return new int[] {who.process, who.state, who.queue.size(), who.timers.size(), who.parent, who.sender, who.child}[what];
        }

        List<String> events() {
            List<String> texts = new ArrayList<>();
            for (int i = 0; i < trace.size() && i < 400; i++) {
                Event event = trace.get(i);
                texts.add(event.kind + " " + event.id + " " + event.name + " " + event.value);
            }
            return texts;
        }

        long[] counts() {
            int signals = 0;
            int timers = 0;
            for (Inst who : alive) {
                signals += who.queue.size();
                timers += who.timers.size();
            }
            return new long[] {0, 0, system == null ? 0 : system.parts.size(), alive.size(), given, now, Math.min(400, trace.size()),
                signals, timers, lost, thrown, seen, row.size(), messages == null ? 0 : messages.size()};
        }

        // ---- walking

        Model copy() {
            Model copy = new Model();
            copy.system = system;
            for (Inst who : alive) {
                copy.alive.add(who.copy());
            }
            copy.given = given;
            copy.now = now;
            return copy;
        }

        String key() {
            StringBuilder text = new StringBuilder("" + given);
            for (Inst who : alive) {
                text.append(" ; ").append(who.key(now));
            }
            return text.toString();
        }

        boolean idle() {
            for (Inst who : alive) {
                if (turn(who, false) != 0) {
                    return false;
                }
            }
            return true;
        }

        long nextDue() {
            long least = Long.MAX_VALUE;
            for (Inst who : alive) {
                for (Timer timer : who.timers) {
                    least = Math.min(least, timer.due);
                }
            }
            return least;
        }

        boolean isIt(int what, int p, int s) {
            if (what == 0) {
                return idle() && nextDue() == Long.MAX_VALUE;
            }
            for (Inst who : alive) {
                if (what == 3 && who.process == p && who.state == s) {
                    return true;
                }
            }
            return false;
        }

        int walk(int what, int p, int s) {
            int processes = system == null ? 6 : system.parts.size();
            if (what == 3 && p >= processes) {
                throw new IllegalArgumentException();
            }
            need();
            row = new ArrayList<>();
            List<Model> found = new ArrayList<>();
            List<List<Integer>> rows = new ArrayList<>();
            Map<String, Integer> known = new HashMap<>();
            found.add(copy());
            rows.add(List.of());
            known.put(key(), 0);
            seen = 1;
            if (isIt(what, p, s)) {
                return 0;
            }
            for (int i = 0; i < found.size(); i++) {
                Model from = found.get(i);
                List<Integer> deeds = new ArrayList<>();
                for (Inst who : from.alive) {
                    if (from.turn(who, false) != 0) {
                        deeds.add(who.id);
                    }
                }
                if (deeds.isEmpty() && from.nextDue() < Long.MAX_VALUE) {
                    deeds.add(-1);
                }
                for (int deed : deeds) {
                    Model next = from.copy();
                    if (deed < 0) {
                        next.time(Math.max(0, next.nextDue() - next.now));
                    } else {
                        next.turn(deed);
                    }
                    boolean fresh = !known.containsKey(next.key());
                    if (next.given > from.given && next.given - 1 > 60 || fresh && found.size() == 1000) {
                        seen = 1000;
                        return -2;
                    }
                    List<Integer> way = new ArrayList<>(rows.get(i));
                    way.add(deed);
                    if (fresh) {
                        known.put(next.key(), found.size());
                        Model kept = next.copy();
                        found.add(kept);
                        rows.add(way);
                    }
                    seen = found.size();
                    if (what == 1 && next.lost > 0 || what == 2 && next.thrown > 0 || fresh && next.isIt(what, p, s)) {
                        row = way;
                        return way.size();
                    }
                }
            }
            return -1;
        }

        // ---- charts

        int chart(String text) {
            Reader reader = new Reader(text);
            List<Message> read = new ArrayList<>();
            Set<String> lines = new HashSet<>();
            try {
                while (!reader.is("END")) {
                    if (read.size() == 40) {
                        throw new Fault(reader.tokens.get(reader.at).place);
                    }
                    String from = line(reader, lines);
                    reader.take(">");
                    int place = reader.tokens.get(reader.at).place;
                    String to = line(reader, lines);
                    if (from.equals("out") && to.equals("out")) {
                        throw new Fault(place);
                    }
                    reader.take(":");
                    String name = reader.take("NAME").text;
                    reader.take(";");
                    read.add(new Message(from, to, name));
                }
            } catch (Fault fault) {
                return -1 - fault.place;
            }
            messages = read;
            return read.size();
        }

        static String line(Reader reader, Set<String> lines) {
            Token token = reader.is("out") ? reader.take("out") : reader.take("NAME");
            lines.add(token.text);
            if (lines.size() > 8) {
                throw new Fault(token.place);
            }
            return token.text;
        }

        /** A chart that the trace fits, if there is one and luck is with it; sometimes one that it does not. */
        String chartOfTrace(Random random) {
            StringBuilder text = new StringBuilder();
            for (Event event : trace) {
                if (event.kind == 0 && event.peer != null && random.nextInt(60) > 0) {
                    text.append(event.owner + ">" + event.peer + ":" + event.name + ";");
                }
            }
            return text.toString();
        }

        boolean fits() {
            need();
            if (messages == null) {
                throw new IllegalStateException();
            }
            if (trace.size() > 400) {
                return false;
            }
            // Each line is a list of what is still to be done.
            Map<String, List<String>> lines = new HashMap<>();
            for (int m = 0; m < messages.size(); m++) {
                Message message = messages.get(m);
                lines.computeIfAbsent(message.from, k -> new ArrayList<>()).add("0 " + message.name + " " + message.to + " " + m);
                lines.computeIfAbsent(message.to, k -> new ArrayList<>()).add("1 " + message.name + " " + message.from + " " + m);
            }
            for (Event event : trace) {
                if (event.kind > 1 || event.peer == null) {
                    continue;
                }
                List<String> line = lines.getOrDefault(event.owner, new ArrayList<>());
                String want = event.kind + " " + event.name + " " + event.peer + " ";
                if (line.isEmpty() || !line.get(0).startsWith(want)) {
                    return false;
                }
                String done = line.remove(0);
                if (event.kind == 0 && event.peer.equals("out")) {
                    lines.get("out").remove("1 " + event.name + " " + event.owner + " " + done.substring(want.length()));
                }
            }
            for (List<String> line : lines.values()) {
                if (!line.isEmpty()) {
                    return false;
                }
            }
            return true;
        }

        List<int[]> races() {
            if (messages == null) {
                throw new IllegalStateException();
            }
            int events = 2 * messages.size();
            String[] lines = new String[events];
            for (int e = 0; e < events; e++) {
                Message message = messages.get(e / 2);
                lines[e] = e % 2 == 0 ? message.from : message.to;
            }
            boolean[][] before = new boolean[events][events];
            for (int a = 0; a < events; a++) {
                for (int b = a + 1; b < events; b++) {
                    before[a][b] = a % 2 == 0 && b == a + 1 || lines[a].equals(lines[b]) && b % 2 == 0;
                }
            }
            for (int k = 0; k < events; k++) {
                for (int a = 0; a < events; a++) {
                    for (int b = 0; b < events; b++) {
                        before[a][b] |= before[a][k] && before[k][b];
                    }
                }
            }
            List<int[]> races = new ArrayList<>();
            for (int a = 0; a < events; a++) {
                for (int b = a + 1; b < events; b++) {
                    if (lines[a].equals(lines[b]) && b % 2 == 1 && !before[a][b]) {
                        races.add(new int[] {a, b});
                    }
                }
            }
            return races;
        }
    }
}
