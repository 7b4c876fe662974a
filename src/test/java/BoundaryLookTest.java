/** The boundary cases of what can be asked: promises 10 to 13 and 21. */
public final class BoundaryLookTest {
    private static final Checks checks = new Checks();
    private static final int LEAST = Integer.MIN_VALUE;
    private static final int LARGEST = Integer.MAX_VALUE;

    public static void main(String[] args) {
        lookRange();
        lookAtNone();
        lookAtMost();
        lookAtFamily();
        variableNames();
        variableAtFirst();
        queueRange();
        queueWhat();
        eventRange();
        eventWhat();
        traceUpToFull();
        traceWithinAnAct();
        lostBeyondTheTrace();
        eventsOfEachKind();
        eventsThatAreLost();
        countRange();
        countWithoutSystem();
        countAtMost();
        countSinceItBegan();
        countOfLatestWalk();
        checks.finish();
    }

    private static ChartHouse inState(String clauses) {
        ChartHouse x = Checks.begun("process a(1){let v=0;start{next s;}state s{" + clauses + "}}");
        x.turn(0);
        return x;
    }

    private static void looks(ChartHouse x, int id, int... due) {
        for (int what = 0; what < due.length; what++) {
            int asked = what;
            checks.due("look " + id + ", " + what, due[what], () -> x.look(id, asked));
        }
    }

    // ---------------------------------------------------------------- promise 10

    private static void lookRange() {
        checks.sentence(10, "what 0 .. 6 (IllegalArgumentException: a number out of range)");
        ChartHouse x = inState("");
        for (int what : new int[] {-1, 7, LEAST, LARGEST}) {
            checks.refused("what " + what, IllegalArgumentException.class, () -> x.look(0, what));
        }
        looks(x, 0, 0, 0, 0, 0, -1, -1, -1);
    }

    private static void lookAtNone() {
        checks.sentence(10, "STATE (from 0; -1 ahead of its start) .. parent (.. else -1), sender (.. -1), child (.. -1)");
        ChartHouse x = Checks.begun("process z(0){start{}}process a(1){start{next t;}state s{}state t{}}");
        looks(x, 0, 1, -1, 0, 0, -1, -1, -1);
        x.turn(0);
        looks(x, 0, 1, 1, 0, 0, -1, -1, -1);
    }

    private static void lookAtMost() {
        checks.sentence(10, "2: SIGNALS in its QUEUE, 3: TIMERS that are set (0 .. 8, 0 .. 4)");
        ChartHouse x = inState("on go{set a 1;set b 1;set c 1;set d 1;set e 1;}save k;");
        checks.due("no TIMER", 0, () -> x.look(0, 3));
        Checks.outside(x, 0, "go", 0);
        x.turn(0);
        checks.due("4 TIMERS", 4, () -> x.look(0, 3));
        for (int i = 0; i < 9; i++) {
            int many = Math.min(i, 8);
            checks.due("SIGNALS " + i, many, () -> x.look(0, 2));
            Checks.outside(x, 0, "k", 0);
        }
        checks.due("no more than 8", 8, () -> x.look(0, 2));
        checks.sentence(10, "0: its PROCESS (0 is the first), 1: STATE (from 0) (up to 5 and 7)");
        ChartHouse y = Checks.begun(Checks.numbered(5, "process p#(0){start{}}") + "process q(1){start{next s7;}" + Checks.numbered(8, "state s#{}") + "}");
        y.turn(0);
        looks(y, 0, 5, 7);
    }

    private static void lookAtFamily() {
        checks.sentence(10, "4: parent, 5: sender, 6: child (they stay what they were, when that INSTANCE is gone)");
        ChartHouse x = Checks.begun("process a(1){start{make b;make b;next s;}state s{on k{}}}process b(0){start{send k to parent;stop;}}");
        x.turn(0);
        looks(x, 0, 0, 0, 0, 0, -1, -1, 2);
        looks(x, 1, 1, -1, 0, 0, 0, -1, -1);
        x.turn(1);
        x.turn(2);
        x.turn(0);
        looks(x, 0, 0, 0, 1, 0, -1, 1, 2);
        x.turn(0);
        looks(x, 0, 0, 0, 0, 0, -1, 2, 2);
    }

    // ---------------------------------------------------------------- promise 11

    private static void variableNames() {
        checks.sentence(11, "a VARIABLE'S NAME (none: UnsupportedOperationException)");
        ChartHouse x = Checks.begun("process a(1){let v=1;let abcdefghijkl=2;let abcdefghijk=3;let V=4;start{next s;}state s{on m{}}}"
            + "process b(1){let w=5;start{}}");
        checks.due("v", 1, () -> Checks.variable(x, 0, "v"));
        checks.due("12 bytes", 2, () -> Checks.variable(x, 0, "abcdefghijkl"));
        checks.due("11 bytes", 3, () -> Checks.variable(x, 0, "abcdefghijk"));
        checks.due("a large letter", 4, () -> Checks.variable(x, 0, "V"));
        checks.due("blanks", 1, () -> Checks.variable(x, 0, " \nv\n "));
        for (String other : new String[] {"", " ", "w", "a", "s", "m", "u", "vv", "abcdefghij", "abcdefghijklm", "v v", "v;", "1", "let",
            "now", "v\u0000", "\u0000v", "#"}) {
            checks.refused("none: " + other, UnsupportedOperationException.class, () -> Checks.variable(x, 0, other));
        }
        checks.due("of the other", 5, () -> Checks.variable(x, 1, "w"));
        checks.refused("not of the other", UnsupportedOperationException.class, () -> Checks.variable(x, 1, "v"));
        checks.refused("a PROCESS without VARIABLES", UnsupportedOperationException.class,
            () -> Checks.variable(Checks.begun("process a(1){start{}}"), 0, "v"));
        ChartHouse y = inState("save k;");
        Checks.outside(y, 0, "k", 5);
        checks.refused("a SIGNAL'S NAME is none", UnsupportedOperationException.class, () -> Checks.variable(y, 0, "k"));
    }

    private static void variableAtFirst() {
        checks.sentence(11, "what it is (at first a NUMBER 0 .. 1000000, then any int)");
        ChartHouse x = Checks.begun("process a(2){let v=0;let w=1000000;start{next s;}state s{on m(v){}on n{w=-v;}}}");
        checks.due("the least at first", 0, () -> Checks.variable(x, 0, "v"));
        checks.due("the largest at first", 1000000, () -> Checks.variable(x, 0, "w"));
        x.turn(0);
        Checks.outside(x, 0, "m", LARGEST);
        Checks.outside(x, 0, "n", 0);
        x.turn(0);
        x.turn(0);
        checks.due("the largest int", LARGEST, () -> Checks.variable(x, 0, "v"));
        checks.due("its negative", -LARGEST, () -> Checks.variable(x, 0, "w"));
        Checks.outside(x, 0, "m", LEAST);
        x.turn(0);
        checks.due("the least int", LEAST, () -> Checks.variable(x, 0, "v"));
        checks.due("each INSTANCE has its own", 0, () -> Checks.variable(x, 1, "v"));
    }

    // ---------------------------------------------------------------- promise 12

    private static void queueRange() {
        checks.sentence(12, "Of SIGNAL i in a QUEUE .. there is none: IndexOutOfBoundsException");
        ChartHouse x = inState("save m;");
        checks.refused("0 of none", IndexOutOfBoundsException.class, () -> x.queue(0, 0, 0));
        Checks.outside(x, 0, "m", 10);
        checks.due("0 of 1", 10, () -> x.queue(0, 0, 0));
        checks.refused("1 of 1", IndexOutOfBoundsException.class, () -> x.queue(0, 1, 0));
        for (int i = 1; i < 9; i++) {
            Checks.outside(x, 0, "m", 10 + i);
        }
        checks.due("7 of 8", 17, () -> x.queue(0, 7, 0));
        for (int i : new int[] {-1, 8, 9, LEAST, LARGEST}) {
            for (int what = 0; what <= 2; what++) {
                int asked = what;
                checks.refused(i + " of 8", IndexOutOfBoundsException.class, () -> x.queue(0, i, asked));
            }
        }
        ChartHouse y = inState("on m{}");
        Checks.outside(y, 0, "m", 1);
        Checks.outside(y, 0, "m", 2);
        y.turn(0);
        checks.due("what is behind comes to the front", 2, () -> y.queue(0, 0, 0));
        checks.refused("1 of 1", IndexOutOfBoundsException.class, () -> y.queue(0, 1, 0));
    }

    private static void queueWhat() {
        checks.sentence(12, "what 0 .. 2 (IllegalArgumentException: a number out of range)");
        ChartHouse x = inState("save abcdefghijkl;save m;");
        Checks.outside(x, 0, "abcdefghijkl", LEAST);
        Checks.outside(x, 0, "m", LARGEST);
        for (int what : new int[] {-1, 3, LEAST, LARGEST}) {
            checks.refused("what " + what, IllegalArgumentException.class, () -> x.queue(0, 0, what));
        }
        checks.due("value", LEAST, () -> x.queue(0, 0, 0));
        checks.due("value", LARGEST, () -> x.queue(0, 1, 0));
        checks.due("sender", -1, () -> x.queue(0, 0, 1));
        checks.due("OUT has not changed", 0, () -> x.count(1));
        checks.due("a NAME of 12", 12, () -> x.queue(0, 0, 2));
        checks.same("OUT", "abcdefghijkl", Checks.out(x));
        checks.due("a NAME of 1", 1, () -> x.queue(0, 1, 2));
        checks.same("OUT", "m", Checks.out(x));
        checks.refused("none", IndexOutOfBoundsException.class, () -> x.queue(0, 2, 2));
        checks.same("OUT stays", "m", Checks.out(x));
    }

    // ---------------------------------------------------------------- promise 13

    private static void eventRange() {
        checks.sentence(13, "Of event i of the TRACE .. there is none: IndexOutOfBoundsException");
        ChartHouse none = Checks.begun("");
        checks.refused("0 of none", IndexOutOfBoundsException.class, () -> none.event(0, 0));
        ChartHouse x = Checks.begun("process a(1){start{}}");
        checks.due("0 of 1", 4, () -> x.event(0, 0));
        for (int i : new int[] {-1, 1, 2, 399, 400, LEAST, LARGEST}) {
            for (int what = 0; what <= 3; what++) {
                int asked = what;
                checks.refused(i + " of 1", IndexOutOfBoundsException.class, () -> x.event(i, asked));
            }
        }
    }

    private static void eventWhat() {
        checks.sentence(13, "what 0 .. 3 (IllegalArgumentException: a number out of range)");
        ChartHouse x = Checks.begun("process abcdefghijkl(1){start{}}");
        for (int what : new int[] {-1, 4, LEAST, LARGEST}) {
            checks.refused("what " + what, IllegalArgumentException.class, () -> x.event(0, what));
        }
        checks.due("kind", 4, () -> x.event(0, 0));
        checks.due("id", 0, () -> x.event(0, 1));
        checks.due("value", -1, () -> x.event(0, 2));
        checks.due("OUT has not changed", 0, () -> x.count(1));
        checks.due("NAME", 12, () -> x.event(0, 3));
        checks.same("OUT", "abcdefghijkl", Checks.out(x));
        checks.sentence(13, "NAME (0 for 5, 7)");
        ChartHouse y = Checks.begun("process a(1){start{say 4;stop;}}");
        y.turn(0);
        for (int i = 1; i <= 2; i++) {
            int event = i;
            y.event(0, 3);
            checks.due("no NAME", 0, () -> y.event(event, 3));
            checks.due("OUT is empty", 0, () -> y.count(1));
        }
    }

    private static void traceUpToFull() {
        checks.sentence(13, "TRACE: events, at most 400 (more are lost)");
        ChartHouse x = inState("when(1){say v;v=v+1;}");
        x.run(398);
        checks.due("399", 399, () -> x.count(6));
        checks.refused("399 is none", IndexOutOfBoundsException.class, () -> x.event(399, 0));
        x.run(1);
        checks.due("400", 400, () -> x.count(6));
        checks.due("event 399", 398, () -> x.event(399, 2));
        x.run(1);
        checks.due("no more than 400", 400, () -> x.count(6));
        checks.due("event 399 stays", 398, () -> x.event(399, 2));
        checks.refused("400 is none", IndexOutOfBoundsException.class, () -> x.event(400, 0));
        x.run(1000);
        checks.due("no more than 400", 400, () -> x.count(6));
        checks.due("event 0 stays", 4, () -> x.event(0, 0));
        checks.due("event 399 stays", 398, () -> x.event(399, 2));
        checks.due("all goes on", 1400, () -> Checks.variable(x, 0, "v"));
    }

    private static void traceWithinAnAct() {
        checks.sentence(13, "at most 400 (more are lost) (within a TURN)");
        ChartHouse x = inState("on go{say 1;say 2;v=5;}when(v<1000){say 0;v=v+1;}");
        x.run(396);
        Checks.outside(x, 0, "go", 0);
        checks.due("398", 398, () -> x.count(6));
        checks.due("INPUT", 3, () -> x.turn(0));
        checks.due("taken and said once", 400, () -> x.count(6));
        checks.due("said 1", 1, () -> x.event(399, 2));
        checks.due("the TURN was done to its end", 5, () -> Checks.variable(x, 0, "v"));
    }

    private static void lostBeyondTheTrace() {
        checks.sentence(21, "9: LOST since it began, 10: THROWN AWAY since (more than the TRACE has)");
        ChartHouse x = inState("when(v<600){send m to parent;v=v+1;}");
        x.run(600);
        checks.due("LOST", 600, () -> x.count(9));
        checks.due("events", 400, () -> x.count(6));
        ChartHouse y = inState("when(v<600){send m to self;v=v+1;}");
        y.run(1000);
        y.run(200);
        checks.due("THROWN AWAY", 600, () -> y.count(10));
        checks.due("events", 400, () -> y.count(6));
    }

    private static void eventsOfEachKind() {
        checks.sentence(13, "kind 0 sent .., 1 taken, 2 THROWN AWAY, 3 LOST, 4 made .., 5 stopped, 6 TIMER that came due, 7 said");
        ChartHouse x = Checks.begun("process a(1){let v=0;start{make b;set t 1;say -8;next s;}state s{on t{send m(5)to child;send n(6)to parent;send o(7)to out;}}}"
            + "process b(0){start{next s;}state s{on m{send p(9)to parent;stop;}}}");
        x.run(2);
        x.time(1);
        x.run(9);
        checks.same("events", "4 0 a -1 | 4 1 b 0 | 7 0  -8 | 6 0 t 0 | 1 0 t 0 | 0 0 m 5 | 0 0 n 6 | 3 0 n 6 | 0 0 o 7 | 1 1 m 5 | 0 1 p 9"
            + " | 5 1  0 | 2 0 p 9", Checks.events(x, 0));
    }

    private static void eventsThatAreLost() {
        checks.sentence(13, "3 whose act it was, of TIMERS whose it is .. value (.. of what make, set and TIME lose: 0; else the value)");
        ChartHouse x = Checks.begun("process a(2){start{next s;}state s{on go{set p 1;set q 1;set r 1;set t 1;set u 7;}on mk{make c;make c;}save k;}}"
            + "process c(3){start{}}");
        x.run(2);
        Checks.outside(x, 1, "go", 3);
        Checks.outside(x, 1, "mk", 4);
        x.turn(1);
        checks.same("set", "3 1 u 0", Checks.event(x, x.count(6) - 1));
        x.turn(1);
        checks.same("make", "4 5 c 1 | 3 1 c 0", Checks.events(x, x.count(6) - 2));
        for (int i = 0; i < 8; i++) {
            Checks.outside(x, 1, "k", 6);
        }
        checks.due("4 come due", 4, () -> x.time(1));
        checks.same("TIME", "6 1 t 0 | 3 1 t 0", Checks.events(x, x.count(6) - 2));
        Checks.outside(x, 1, "k", 8);
        checks.same("OUTSIDE", "0 -1 k 8 | 3 -1 k 8", Checks.events(x, x.count(6) - 2));
        checks.due("LOST", 7, () -> x.count(9));
    }

    // ---------------------------------------------------------------- promise 21

    private static void counts(ChartHouse x, int... due) {
        for (int what = 0; what < due.length; what++) {
            int asked = what;
            checks.due("count " + what, due[what], () -> x.count(asked));
        }
    }

    private static void countRange() {
        checks.sentence(21, "what 0 .. 13 (IllegalArgumentException: a number out of range)");
        for (ChartHouse x : new ChartHouse[] {new ChartHouse(), inState("")}) {
            for (int what : new int[] {-1, 14, LEAST, LARGEST}) {
                checks.refused("what " + what, IllegalArgumentException.class, () -> x.count(what));
            }
            checks.due("0", 0, () -> x.count(0));
            checks.due("13", 0, () -> x.count(13));
        }
    }

    private static void countWithoutSystem() {
        checks.sentence(21, "count (without SYSTEM and CHART: all 0)");
        counts(new ChartHouse(), 0, 0, 0, 0, 0, 0, 0, 0, 0, 0, 0, 0, 0, 0);
        ChartHouse x = new ChartHouse();
        Checks.system(x, "process a(3){start{}");
        Checks.chart(x, "a>b:m;a>");
        Checks.tape(x, "abc");
        counts(x, 3, 0, 0, 0, 0, 0, 0, 0, 0, 0, 0, 0, 0, 0);
    }

    private static void countAtMost() {
        checks.sentence(21, "0: bytes of THE TAPE .. 13: messages of the CHART (the most that there can be)");
        String blanks = Checks.times(2000, " ");
        StringBuilder text = new StringBuilder();
        for (int i = 0; i < 6; i++) {
            text.append("process abcdefghijk").append(i).append("(3){start{set a 1;set b 1;set c 1;set d 1;next s;}state s{}}");
        }
        ChartHouse x = Checks.begun(text.toString());
        x.run(8);
        x.event(0, 3);
        for (int id = 0; id < 8; id++) {
            for (int i = 0; i < 9; i++) {
                Checks.outside(x, id, "m", 0);
            }
        }
        checks.due("40 messages", 40, () -> Checks.chart(x, Checks.times(40, "a>b:m;")));
        Checks.tape(x, blanks);
        counts(x, 2000, 12, 6, 8, 8, 0, 88, 64, 32, 8, 0, 0, 0, 40);
    }

    private static void countSinceItBegan() {
        checks.sentence(21, "LOST since it began, .. THROWN AWAY since");
        ChartHouse x = Checks.begun("process a(1){start{send m to parent;send m to self;next s;}state s{}}");
        x.run(9);
        checks.due("LOST", 1, () -> x.count(9));
        checks.due("THROWN AWAY", 1, () -> x.count(10));
        x.begin();
        checks.due("LOST", 0, () -> x.count(9));
        checks.due("THROWN AWAY", 0, () -> x.count(10));
        x.run(9);
        checks.due("a FAULT", -1, () -> Checks.system(x, "#"));
        checks.due("LOST", 1, () -> x.count(9));
        Checks.system(x, "");
        checks.due("LOST", 0, () -> x.count(9));
        checks.due("THROWN AWAY", 0, () -> x.count(10));
    }

    private static void countOfLatestWalk() {
        checks.sentence(21, "11: STATES that the latest walk came to (1000 with -2; 0 at first), 12: acts of its ROW");
        ChartHouse x = Checks.begun("process a(1){let n=0;start{next s;}state s{when(1){n=n+1;}}}");
        counts(x, 0, 0, 1, 1, 1, 0, 1, 0, 0, 0, 0, 0, 0, 0);
        checks.due("found", 1, () -> x.walk(3, 0, 0));
        counts(x, 0, 0, 1, 1, 1, 0, 1, 0, 0, 0, 0, 2, 1, 0);
        checks.due("too many", -2, () -> x.walk(0, 0, 0));
        counts(x, 0, 0, 1, 1, 1, 0, 1, 0, 0, 0, 0, 1000, 0, 0);
        checks.due("found", 1, () -> x.walk(3, 0, 0));
        x.begin();
        counts(x, 0, 0, 1, 1, 1, 0, 1, 0, 0, 0, 0, 2, 1, 0);
        Checks.system(x, "");
        counts(x, 0, 0, 0, 0, 0, 0, 0, 0, 0, 0, 0, 2, 1, 0);
        checks.due("found at once", 0, () -> x.walk(0, 0, 0));
        counts(x, 0, 0, 0, 0, 0, 0, 0, 0, 0, 0, 0, 1, 0, 0);
    }
}
