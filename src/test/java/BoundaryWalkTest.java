/** The boundary cases of walks: promises 15 and 16. */
public final class BoundaryWalkTest {
    private static final Checks checks = new Checks();
    private static final int LEAST = Integer.MIN_VALUE;
    private static final int LARGEST = Integer.MAX_VALUE;
    private static final int STUCK = 0;
    private static final int LOST = 1;
    private static final int THROWN = 2;
    private static final int IN = 3;

    public static void main(String[] args) {
        whatRange();
        processRange();
        stateRange();
        doNotMatterElse();
        firstCanBeIt();
        firstCantBeIt();
        noneIsFound();
        thousandStates();
        foundAtTheLast();
        thousandByManyWays();
        largestStates();
        longestRow();
        idSixty();
        idsGivenBefore();
        makeThatGivesNoId();
        foundAheadOfTooMuch();
        foundByTheActThatIsTooMuch();
        timeOnlyIfNoneCan();
        timeUpToTheNext();
        stuck();
        comeToBefore();
        lookedAtWhenComeTo();
        eachComeToOnce();
        toldApartByVariables();
        toldApartBySender();
        toldApartByChild();
        toldApartByParent();
        toldApartByIds();
        toldApartBySignals();
        toldApartByTimers();
        notToldApartByNow();
        byId();
        asEachWas();
        walkBehindWalk();
        asBefore();
        actRange();
        actWithoutRow();
        rowStays();
        checks.finish();
    }

    private static ChartHouse inState(String clauses) {
        ChartHouse x = Checks.begun("process a(1){let n=0;let v=0;start{next s;}state s{" + clauses + "}state t{}}");
        x.turn(0);
        return x;
    }

    /** The answer, the row and count(11), as 'answer: row of STATES'. */
    private static void walks(ChartHouse x, String label, String want, int what, int p, int s) {
        String answer = Checks.answerOf(() -> x.walk(what, p, s));
        checks.same(label, want, answer + ": " + Checks.row(x) + " of " + x.count(11));
    }

    private static void walks(ChartHouse x, String label, String want, int what) {
        walks(x, label, want, what, 0, 0);
    }

    // ---------------------------------------------------------------- ranges

    private static void whatRange() {
        checks.sentence(15, "what 0 .. 3 (IllegalArgumentException: a number out of range)");
        ChartHouse x = inState("");
        for (int what : new int[] {-1, 4, LEAST, LARGEST}) {
            checks.refused("what " + what, IllegalArgumentException.class, () -> x.walk(what, 0, 0));
            checks.refused("without SYSTEM " + what, IllegalArgumentException.class, () -> new ChartHouse().walk(what, 0, 0));
        }
        for (int what = 0; what <= 3; what++) {
            int asked = what;
            checks.due("what " + what, what == STUCK || what == IN ? 0 : -1, () -> x.walk(asked, 0, 0));
            checks.refused("without SYSTEM " + what, IllegalStateException.class, () -> new ChartHouse().walk(asked, 0, 0));
        }
    }

    private static void processRange() {
        checks.sentence(15, "PROCESS p (0 .. PROCESSES - 1; without SYSTEM 0 .. 5)");
        ChartHouse none = new ChartHouse();
        for (int p : new int[] {-1, 6, LEAST, LARGEST}) {
            checks.refused("without SYSTEM " + p, IllegalArgumentException.class, () -> none.walk(IN, p, 0));
        }
        checks.refused("without SYSTEM 0", IllegalStateException.class, () -> none.walk(IN, 0, 0));
        checks.refused("without SYSTEM 5", IllegalStateException.class, () -> none.walk(IN, 5, 0));
        for (int processes = 0; processes <= 6; processes++) {
            int many = processes;
            ChartHouse x = Checks.begun(Checks.numbered(many, "process p#(1){start{next s;}state s{}}"));
            checks.refused("-1 of " + many, IllegalArgumentException.class, () -> x.walk(IN, -1, 0));
            checks.refused(many + " of " + many, IllegalArgumentException.class, () -> x.walk(IN, many, 0));
            checks.refused("the largest int", IllegalArgumentException.class, () -> x.walk(IN, LARGEST, 0));
            for (int p = 0; p < many; p++) {
                walks(x, p + " of " + many, "1: " + p + " of " + (p + 2), IN, p, 0);
            }
        }
    }

    private static void stateRange() {
        checks.sentence(15, "STATE s (0 .. 7 ..)");
        ChartHouse x = Checks.begun("process a(1){start{next s7;}" + Checks.numbered(8, "state s#{}") + "}");
        for (int s : new int[] {-1, 8, LEAST, LARGEST}) {
            checks.refused("s " + s, IllegalArgumentException.class, () -> x.walk(IN, 0, s));
            checks.refused("without SYSTEM " + s, IllegalArgumentException.class, () -> new ChartHouse().walk(IN, 0, s));
        }
        walks(x, "0", "-1:  of 2", IN, 0, 0);
        walks(x, "6", "-1:  of 2", IN, 0, 6);
        walks(x, "7", "1: 0 of 2", IN, 0, 7);
        checks.refused("without SYSTEM 7", IllegalStateException.class, () -> new ChartHouse().walk(IN, 0, 7));
        ChartHouse y = inState("");
        walks(y, "there are two STATES: the third", "-1:  of 1", IN, 0, 2);
        walks(y, "there are two STATES: the eighth", "-1:  of 1", IN, 0, 7);
        ChartHouse z = Checks.begun("process a(1){start{stop;}}");
        walks(z, "no STATE ahead of its start", "-1:  of 2", IN, 0, 0);
    }

    private static void doNotMatterElse() {
        checks.sentence(15, "p, s do not matter else");
        int[] any = {LEAST, -1, 6, 8, LARGEST};
        for (int number : any) {
            ChartHouse x = inState("when(n<1){n=1;}");
            walks(x, "STUCK", "1: 0 of 2", STUCK, number, number);
            walks(x, "LOST", "-1:  of 2", LOST, number, 0);
            walks(x, "THROWN AWAY", "-1:  of 2", THROWN, 0, number);
            checks.refused("without SYSTEM", IllegalStateException.class, () -> new ChartHouse().walk(STUCK, number, number));
        }
    }

    // ---------------------------------------------------------------- what is found

    private static void firstCanBeIt() {
        checks.sentence(15, "the first STATE can be it with 0 and 3");
        ChartHouse x = inState("");
        walks(x, "STUCK", "0:  of 1", STUCK);
        walks(x, "IN", "0:  of 1", IN);
        ChartHouse y = inState("when(1){n=n+1;}");
        walks(y, "IN, whatever could be done", "0:  of 1", IN);
        walks(Checks.begun(""), "nothing is there", "0:  of 1", STUCK);
        walks(Checks.begun("process a(0){start{}}"), "nothing is there", "0:  of 1", STUCK);
    }

    private static void firstCantBeIt() {
        checks.sentence(15, "1: one behind an act by which something was LOST, 2: .. THROWN AWAY (what was before the walk is none)");
        ChartHouse x = Checks.begun("process a(1){start{send m to parent;send m to self;next s;}state s{}}");
        x.run(9);
        checks.due("LOST before", 1, () -> x.count(9));
        checks.due("THROWN AWAY before", 1, () -> x.count(10));
        walks(x, "LOST", "-1:  of 1", LOST);
        walks(x, "THROWN AWAY", "-1:  of 1", THROWN);
        walks(Checks.begun(""), "nothing is there", "-1:  of 1", LOST);
        walks(Checks.begun(""), "nothing is there", "-1:  of 1", THROWN);
    }

    private static void noneIsFound() {
        checks.sentence(15, "-1: there is none");
        ChartHouse x = inState("when(n<5){n=n+1;}when(n==5){n=0;}");
        for (int what = 0; what < 3; what++) {
            walks(x, "none", "-1:  of 6", what);
        }
        walks(x, "none", "-1:  of 6", IN, 0, 1);
    }

    // ---------------------------------------------------------------- too much

    /** STATES: one for each n from 0 to the most. */
    private static ChartHouse counting(int most, String atLast) {
        return inState("when(n<" + most + "){n=n+1;}" + atLast);
    }

    private static void thousandStates() {
        checks.sentence(15, "-2: more than 1000 STATES (.. count(11) is 1000 then, too)");
        ChartHouse x = counting(999, "");
        checks.due("1000: none is LOST", -1, () -> x.walk(LOST, 0, 0));
        checks.due("STATES", 1000, () -> x.count(11));
        ChartHouse y = counting(1000, "");
        for (int what = 0; what < 3; what++) {
            int asked = what;
            checks.due("1001", -2, () -> y.walk(asked, 0, 0));
            checks.due("STATES", 1000, () -> y.count(11));
            checks.due("acts", 0, () -> y.count(12));
        }
        checks.due("1001", -2, () -> y.walk(IN, 0, 1));
        ChartHouse z = counting(998, "");
        checks.due("999: none is LOST", -1, () -> z.walk(LOST, 0, 0));
        checks.due("STATES", 999, () -> z.count(11));
        ChartHouse w = counting(100000, "");
        checks.due("many", -2, () -> w.walk(STUCK, 0, 0));
        checks.due("STATES", 1000, () -> w.count(11));
    }

    private static void foundAtTheLast() {
        checks.sentence(15, "-2: more than 1000 STATES (the 1000th may be what is looked for)");
        ChartHouse x = counting(999, "");
        checks.due("STUCK", 999, () -> x.walk(STUCK, 0, 0));
        checks.due("STATES", 1000, () -> x.count(11));
        checks.due("acts", 999, () -> x.count(12));
        ChartHouse y = counting(998, "when(n==998){n=999;next t;}");
        checks.due("IN", 999, () -> y.walk(IN, 0, 1));
        checks.due("STATES", 1000, () -> y.count(11));
        ChartHouse z = counting(998, "when(n==998){n=999;send m to parent;}");
        checks.due("LOST", 999, () -> z.walk(LOST, 0, 0));
        checks.due("STATES", 1000, () -> z.count(11));
        ChartHouse w = counting(996, "when(n==996){n=997;send m to self;}");
        checks.due("THROWN AWAY", 998, () -> w.walk(THROWN, 0, 0));
        checks.due("STATES", 999, () -> w.count(11));
    }

    /** Two that count, each by itself: STATES are the pairs of their numbers, most of them come to by two acts. */
    private static ChartHouse pairs(int one, int other) {
        ChartHouse x = Checks.begun("process a(1){let n=0;start{next s;}state s{when(n<" + (one - 1) + "){n=n+1;}}}"
            + "process b(1){let n=0;start{next s;}state s{when(n<" + (other - 1) + "){n=n+1;}}}");
        x.run(2);
        return x;
    }

    private static void thousandByManyWays() {
        checks.sentence(15, "-2: more than 1000 STATES (each counts once, however many ways lead to it)");
        int[][] cases = {{2, 3}, {25, 40}, {40, 25}, {1, 1000}, {1000, 1}, {31, 32}};
        for (int[] one : cases) {
            ChartHouse x = pairs(one[0], one[1]);
            checks.due(one[0] + " by " + one[1] + ": none", -1, () -> x.walk(LOST, 0, 0));
            checks.due("STATES", one[0] * one[1], () -> x.count(11));
            checks.due("STUCK", one[0] + one[1] - 2, () -> x.walk(STUCK, 0, 0));
        }
        for (int[] one : new int[][] {{7, 143}, {143, 7}, {1, 1001}, {32, 32}}) {
            ChartHouse x = pairs(one[0], one[1]);
            checks.due(one[0] + " by " + one[1], -2, () -> x.walk(LOST, 0, 0));
            checks.due("STATES", 1000, () -> x.count(11));
        }
    }

    private static void largestStates() {
        checks.sentence(15, "INSTANCES with all that they have (8 with 6 VARIABLES, 8 SIGNALS and 4 TIMERS each)");
        StringBuilder text = new StringBuilder();
        for (char name = 'a'; name <= 'c'; name++) {
            text.append("process ").append(name).append("(3){let u=1;let v=2;let w=3;let x=4;let y=5;let z=6;start{set p 9;set q 9;set r 9;set t 9;next s;}"
                + "state s{save m;when(z==7){z=8;next d;}when(now<9){if(self==7){if(z<600){z=z+1;if(z==7){z=9;}}}}}state d{}}");
        }
        ChartHouse x = Checks.begun(text.toString());
        x.run(8);
        for (int id = 0; id < 8; id++) {
            for (int i = 0; i < 8; i++) {
                Checks.outside(x, id, "m", id * 8 + i);
            }
        }
        checks.due("SIGNALS", 64, () -> x.count(7));
        checks.due("TIMERS", 32, () -> x.count(8));
        // z of id 7 goes from 6 to 9 and then on to 600; each of the others only does what changes nothing.
        checks.due("none is THROWN AWAY", -1, () -> x.walk(THROWN, 0, 0));
        checks.due("STATES", 593, () -> x.count(11));
        checks.due("SIGNALS", 64, () -> x.count(7));
        checks.due("the last SIGNAL of the last", 63, () -> x.queue(7, 7, 0));
    }

    private static void longestRow() {
        checks.sentence(15, "The ROW: the ids of TURNS (-1: TIME) up to the first such (behind 1000 STATES)");
        ChartHouse x = counting(999, "when(n==999){send m to parent;}");
        checks.due("the 1000th act leads to a STATE that was come to", 1000, () -> x.walk(LOST, 0, 0));
        checks.due("STATES", 1000, () -> x.count(11));
        checks.due("acts", 1000, () -> x.count(12));
        checks.due("the first", 0, () -> x.act(0));
        checks.due("the last", 0, () -> x.act(999));
        checks.refused("behind the last", IndexOutOfBoundsException.class, () -> x.act(1000));
        ChartHouse y = inState("on m{set t 1000000;}save none;on t(v){n=n+1;set t 1000000;}");
        Checks.outside(y, 0, "m", 0);
        y.turn(0);
        checks.due("TIME as far as it goes", -2, () -> y.walk(STUCK, 0, 0));
        ChartHouse z = inState("on m{set t 1000000;}on t{n=n+1;if(n<500){set t 1000000;}}");
        Checks.outside(z, 0, "m", 0);
        z.turn(0);
        checks.due("500 times TIME and a TURN are 1001 STATES", -2, () -> z.walk(STUCK, 0, 0));
        ChartHouse w = inState("on m{set t 1000000;}on t{n=n+1;if(n<499){set t 1000000;}}");
        Checks.outside(w, 0, "m", 0);
        w.turn(0);
        checks.due("499 times TIME and a TURN", 998, () -> w.walk(STUCK, 0, 0));
        checks.due("TIME", -1, () -> w.act(996));
        checks.due("TURN", 0, () -> w.act(997));
        checks.due("NOW", 0, () -> w.count(5));
    }

    /** Makes so many, one behind the other, three acts for each. */
    private static String making(int most) {
        return "process m(1){let n=0;start{next s;}state s{when(n<" + most + "){n=n+1;make w;next t;}}state t{on ready{next s;}}}"
            + "process w(0){start{send ready to parent;stop;}}";
    }

    private static void idSixty() {
        checks.sentence(15, "-2: .. or an id above 60 would be given (count(11) is 1000 then, too)");
        ChartHouse x = Checks.begun(making(59));
        checks.due("id 59", 178, () -> x.walk(STUCK, 0, 0));
        ChartHouse y = Checks.begun(making(60));
        checks.due("id 60", 181, () -> y.walk(STUCK, 0, 0));
        checks.due("STATES", 182, () -> y.count(11));
        ChartHouse z = Checks.begun(making(61));
        for (int what = 0; what < 3; what++) {
            int asked = what;
            checks.due("id 61", -2, () -> z.walk(asked, 0, 0));
            checks.due("STATES", 1000, () -> z.count(11));
            checks.due("acts", 0, () -> z.count(12));
        }
        checks.due("id 61", -2, () -> z.walk(IN, 1, 7));
        checks.due("nothing has changed", 1, () -> z.count(4));
    }

    private static void idsGivenBefore() {
        checks.sentence(15, "-2: .. an id above 60 would be given (not: was given before)");
        ChartHouse x = Checks.begun(making(61));
        checks.due("all are made", 184, () -> x.run(1000));
        checks.due("62 ids", 62, () -> x.count(4));
        walks(x, "no id would be given", "0:  of 1", STUCK);
        walks(x, "no id would be given", "-1:  of 1", LOST);
        ChartHouse y = Checks.begun(making(62));
        checks.due("the last but one", 184, () -> y.run(184));
        checks.due("62 ids", 62, () -> y.count(4));
        checks.due("id 62 would be given", -2, () -> y.walk(STUCK, 0, 0));
        checks.due("STATES", 1000, () -> y.count(11));
        ChartHouse z = Checks.begun(making(61));
        z.run(181);
        checks.due("61 ids", 61, () -> z.count(4));
        checks.due("id 61 would be given", -2, () -> z.walk(STUCK, 0, 0));
        Checks.outside(x, 0, "other", 0);
        walks(x, "a TURN that gives no id", "1: 0 of 2", THROWN);
        z.begin();
        z.run(178);
        checks.due("60 ids", 60, () -> z.count(4));
        checks.due("id 60, and then id 61", -2, () -> z.walk(STUCK, 0, 0));
    }

    private static void makeThatGivesNoId() {
        checks.sentence(15, "an id above 60 would be given (a make that is LOST gives none)");
        String text = "process m(1){let n=0;start{next s;}state s{when(n<56){n=n+1;make w;next t;}when(n<60){n=n+1;make z;}when(n==60){make z;next u;}}"
            + "state t{on ready{next s;}}state u{}}process w(0){start{send ready to parent;stop;}}process z(0){start{next s;}state s{}}";
        ChartHouse x = Checks.begun(text);
        x.run(1000);
        checks.due("61 ids", 61, () -> x.count(4));
        checks.due("one was LOST", 1, () -> x.count(9));
        x.begin();
        int done = x.run(169);
        checks.due("n is 56", 56, () -> Checks.variable(x, 0, "n"));
        checks.due("TURNS", 169, () -> done);
        checks.same("LOST is found: ids 57 to 60 and then none", "5: 0 0 0 0 0", x.walk(LOST, 0, 0) + ": " + Checks.row(x));
    }

    private static void foundAheadOfTooMuch() {
        checks.sentence(15, "up to the first such (what would be too much behind it does not matter)");
        ChartHouse x = inState("when(n==0){n=1;send m to parent;}when(1){n=n+1;}");
        walks(x, "LOST ahead of 1000 STATES", "1: 0 of 2", LOST);
        ChartHouse y = Checks.begun(making(61));
        walks(y, "IN ahead of id 61", "1: 0 of 2", IN);
        checks.due("STATES anew", 2, () -> y.count(11));
    }

    private static void foundByTheActThatIsTooMuch() {
        checks.sentence(15, "-2: more than 1000 STATES, or an id above 60 would be given (by the very act that also leads to what is looked for)");
        ChartHouse x = counting(999, "when(n==999){n=1000;next t;}");
        checks.due("the 1001st is IN", -2, () -> x.walk(IN, 0, 1));
        ChartHouse y = counting(999, "when(n==999){n=1000;send m to parent;}");
        checks.due("LOST on the way to the 1001st", -2, () -> y.walk(LOST, 0, 0));
        checks.due("STATES", 1000, () -> y.count(11));
        checks.due("acts", 0, () -> y.count(12));
        ChartHouse z = counting(999, "save m;");
        Checks.outside(z, 0, "m", 0);
        checks.due("saved", -1, () -> z.walk(THROWN, 0, 0));
        ChartHouse w = Checks.begun("process a(1){let n=0;start{next s;}state s{save m;when(n<998){n=n+1;}when(n==998){next t;}}state t{}}");
        w.turn(0);
        Checks.outside(w, 0, "m", 0);
        checks.due("THROWN AWAY on the way to the 1001st", -2, () -> w.walk(THROWN, 0, 0));
        String lastMakes = "process m(1){let n=0;start{next s;}state s{when(n<60){n=n+1;make w;next t;}when(n==60){n=61;send no to child;make w;next u;}}"
            + "state t{on ready{next s;}}state u{}}process w(0){start{send ready to parent;stop;}}";
        ChartHouse v = Checks.begun(lastMakes);
        checks.due("LOST, and id 61", -2, () -> v.walk(LOST, 0, 0));
        checks.due("IN, and id 61", -2, () -> v.walk(IN, 0, 2));
    }

    // ---------------------------------------------------------------- TIME

    private static void timeOnlyIfNoneCan() {
        checks.sentence(15, "a TURN of each INSTANCE by id that can do something; if none can: TIME");
        ChartHouse x = inState("on m{set t 0;}when(v<2){v=v+1;}on t{next t;}");
        Checks.outside(x, 0, "m", 0);
        walks(x, "TURNS first, though it is due at once", "5: 0 0 0 -1 0 of 6", IN, 0, 1);
        ChartHouse y = inState("on m{set t 5;}when(1){}");
        Checks.outside(y, 0, "m", 0);
        y.turn(0);
        walks(y, "a TURN that changes nothing is one", "-1:  of 1", STUCK);
        ChartHouse z = inState("on m{set t 5;}save k;");
        Checks.outside(z, 0, "m", 0);
        Checks.outside(z, 0, "k", 0);
        z.turn(0);
        walks(z, "what is saved can't be done", "2: -1 0 of 3", THROWN);
    }

    private static void timeUpToTheNext() {
        checks.sentence(15, "TIME up to the next TIMER that is due");
        ChartHouse x = Checks.begun("process a(1){start{set p 5;set q 5;set r 6;next s;}state s{save p;save q;save r;}}");
        walks(x, "all that are due then", "3: 0 -1 -1 of 4", STUCK);
        ChartHouse y = Checks.begun("process a(2){start{set p 3;next s;}state s{save p;}}");
        y.turn(0);
        y.time(1);
        y.turn(1);
        walks(y, "one, then the other", "2: -1 -1 of 3", STUCK);
        ChartHouse z = Checks.begun("process a(2){start{set p 3;next s;}state s{save p;}}");
        z.run(2);
        walks(z, "both at once", "1: -1 of 2", STUCK);
        ChartHouse w = inState("on m{set t 3;}on t{v=now;if(v==3){next t;}}");
        Checks.outside(w, 0, "m", 0);
        w.turn(0);
        walks(w, "NOW is as it would be", "2: -1 0 of 3", IN, 0, 1);
        w.time(2);
        walks(w, "from NOW on", "2: -1 0 of 3", IN, 0, 1);
        ChartHouse n = inState("on m{set p 0;set q 1;}save p;save q;");
        Checks.outside(n, 0, "m", 0);
        n.turn(0);
        walks(n, "one that is due at NOW, then one that is due 1 later", "2: -1 -1 of 3", STUCK);
        ChartHouse o = Checks.begun("process a(3){start{set t 5;next s;}state s{save t;}}process b(3){start{set t 6;next s;}state s{save t;}}"
            + "process c(2){start{set t 6;next s;}state s{save t;}}");
        o.run(8);
        walks(o, "with 8 INSTANCES", "2: -1 -1 of 3", STUCK);
        ChartHouse u = inState("on m{set t 1;}save k;");
        Checks.outside(u, 0, "m", 0);
        u.turn(0);
        for (int i = 0; i < 8; i++) {
            Checks.outside(u, 0, "k", 0);
        }
        walks(u, "TIME is an act by which something was LOST", "1: -1 of 2", LOST);
    }

    private static void stuck() {
        checks.sentence(15, "(none: STUCK)");
        ChartHouse x = inState("save k;when(0){}");
        Checks.outside(x, 0, "k", 0);
        walks(x, "what is saved is STUCK", "0:  of 1", STUCK);
        ChartHouse y = inState("on m{set t 1000000;}save t;");
        Checks.outside(y, 0, "m", 0);
        y.turn(0);
        walks(y, "with a TIMER it is not yet", "1: -1 of 2", STUCK);
        ChartHouse z = inState("on m{set t 0;}save t;");
        Checks.outside(z, 0, "m", 0);
        z.turn(0);
        walks(z, "nor with one that is due at NOW", "1: -1 of 2", STUCK);
        walks(Checks.begun("process a(1){start{stop;}}"), "where none is there it is", "1: 0 of 2", STUCK);
    }

    // ---------------------------------------------------------------- STATES that were come to

    private static void comeToBefore() {
        checks.sentence(15, "(1, 2: also if it was come to before)");
        walks(inState("when(1){send m to parent;}"), "LOST, back to the first", "1: 0 of 1", LOST);
        ChartHouse x = inState("when(n==0){n=1;send m to self;next s;}when(n==1){n=0;}");
        walks(x, "THROWN AWAY", "2: 0 0 of 3", THROWN);
        // Back to the first STATE by an act that throws away: its sender must be what it was.
        ChartHouse z = inState("when(1){send m to self;}");
        z.run(2);
        checks.due("sender", 0, () -> z.look(0, 5));
        walks(z, "THROWN AWAY, back to the first", "2: 0 0 of 2", THROWN);
    }

    private static void lookedAtWhenComeTo() {
        checks.sentence(15, "each come to once (and looked at then)");
        ChartHouse x = Checks.begun("process a(3){start{next s;}state s{}}");
        walks(x, "count(11) has those that were come to up to then", "3: 0 1 2 of 8", STUCK);
        ChartHouse y = Checks.begun("process a(2){start{next s;}state s{}}process b(1){start{next s;}state s{}}");
        walks(y, "from the first STATE the third act", "1: 2 of 4", IN, 1, 0);
    }

    private static void eachComeToOnce() {
        checks.sentence(15, "STATES .. each come to once");
        walks(Checks.begun("process a(2){start{next s;}state s{}}"), "two ways to one", "-1:  of 4", LOST);
        walks(Checks.begun("process a(3){start{next s;}state s{}}"), "six ways to one", "-1:  of 8", LOST);
        walks(inState("when(1){}"), "back to the first", "-1:  of 1", LOST);
    }

    private static void toldApartByVariables() {
        checks.sentence(15, "INSTANCES with all that they have (VARIABLES, STATE)");
        walks(inState("when(n<3){n=n+1;}"), "the first VARIABLE", "-1:  of 4", LOST);
        walks(Checks.begun("process a(1){" + Checks.numbered(6, "let v#=0;") + "start{next s;}state s{when(v5<3){v5=v5+1;}}}"),
            "the sixth VARIABLE", "-1:  of 5", LOST);
        StringBuilder states = new StringBuilder();
        for (int i = 0; i < 8; i++) {
            states.append("state s").append(i).append("{when(1){next s").append(Math.min(i + 1, 7)).append(";}}");
        }
        walks(Checks.begun("process a(1){start{next s0;}" + states + "}"), "STATES", "-1:  of 9", LOST);
    }

    private static void toldApartBySender() {
        checks.sentence(15, "INSTANCES with all that they have (sender)");
        ChartHouse x = Checks.begun("process a(1){start{send m to self;next s;}state s{on m{send m to self;}}}");
        x.turn(0);
        walks(x, "sender -1, then 0", "-1:  of 2", LOST);
    }

    private static void toldApartByChild() {
        checks.sentence(15, "INSTANCES with all that they have (child)");
        ChartHouse x = Checks.begun("process a(1){start{make b;make b;make b;make b;next s;}state s{when(1){make b;}}}process b(0){start{next s;}state s{}}");
        x.turn(0);
        for (int id = 1; id <= 4; id++) {
            x.turn(id);
        }
        checks.due("child", 4, () -> x.look(0, 6));
        walks(x, "child 4, then -1", "-1:  of 2", THROWN);
    }

    private static void toldApartByParent() {
        checks.sentence(15, "INSTANCES with all that they have (parent)");
        // Whoever starts first is the parent of id 2; else the ends are the same. 1, 2 times 2 and 2 times 4 STATES.
        ChartHouse x = Checks.begun("process a(2){start{make c;stop;}}process c(0){start{next s;}state s{}}");
        walks(x, "13 STATES, written out by hand", "-1:  of 13", LOST);
    }

    private static void toldApartByIds() {
        checks.sentence(15, "how many ids were given");
        // Both ends have the same INSTANCES; to one of them id 3 was given.
        ChartHouse x = Checks.begun("process g(1){start{send x to m;next s;}state s{}}process h(1){start{send y to m;next s;}state s{}}"
            + "process m(1){start{next s;}state s{on x{stop;}on y{make w;stop;}}}process w(0){start{stop;}}");
        x.turn(2);
        walks(x, "11 STATES, written out by hand", "-1:  of 11", THROWN);
    }

    private static void toldApartBySignals() {
        checks.sentence(15, "of SIGNALS NAME, value and sender");
        walks(inState("save m;save k;when(n==0){send m to self;n=2;}when(n==2){n=3;}"), "a SIGNAL more", "-1:  of 3", LOST);
        ChartHouse name = Checks.begun("process a(1){start{send m to self;send k to self;next s;}state s{on m{send m to self;}on k{send k to self;}}}");
        name.turn(0);
        walks(name, "NAME: m and k, and k and m", "-1:  of 3", LOST);
        ChartHouse value = Checks.begun("process a(1){start{send m(5)to self;send m(6)to self;next s;}state s{on m{send m(1)to self;}}}");
        value.turn(0);
        walks(value, "value: 5 and 6, 6 and 1, 1 and 1", "-1:  of 3", LOST);
        ChartHouse sender = Checks.begun("process a(1){start{send m to c;next s;}state s{}}process b(1){start{send m to c;next s;}state s{}}"
            + "process c(1){start{next s;}state s{save m;}}");
        sender.turn(2);
        walks(sender, "sender: 0 and 1, and 1 and 0", "-1:  of 5", LOST);
        // From one INSTANCE, with the same NAME and value, two ways are one.
        ChartHouse y = Checks.begun("process a(1){start{send m to c;send m to c;next s;}state s{}}process b(1){start{next s;}state s{}}"
            + "process c(1){start{next s;}state s{save m;}}");
        y.turn(2);
        walks(y, "the same SIGNALS", "-1:  of 4", LOST);
    }

    private static void toldApartByTimers() {
        checks.sentence(15, "NOW as how long TIMERS have to go");
        ChartHouse x = inState("when(n<3){set t 5-n;n=n+1;if(n==3){v=1;n=9;}}save t;");
        walks(x, "the last has the STATE behind TIME too", "-1:  of 5", LOST);
        // The same VARIABLES, but a TIMER that has longer to go.
        ChartHouse y = inState("when(v==0){v=1;set t 1;}when(v==1){v=2;set t 2;}when(v==2){v=1;set t 3;}save t;");
        walks(y, "1, 2 and 3 to go", "-1:  of 4", LOST);
        // The same TIMER by another NAME.
        ChartHouse z = inState("when(v==0){v=1;set p 1;}when(v==1){v=2;reset p;set q 1;}when(v==2){v=1;}save p;save q;");
        walks(z, "p and q", "-1:  of 4", LOST);
    }

    private static void notToldApartByNow() {
        checks.sentence(15, "NOW as how long TIMERS have to go; not TRACE");
        ChartHouse x = inState("on t{set t 5;say now;}on go{set t 5;}");
        Checks.outside(x, 0, "go", 0);
        x.turn(0);
        x.time(5);
        x.turn(0);
        walks(x, "round and round, later and later", "-1:  of 2", STUCK);
        ChartHouse y = inState("when(1){say 1;}");
        walks(y, "what was said tells nothing apart", "-1:  of 1", STUCK);
        ChartHouse z = inState("when(1){send m to out;}");
        walks(z, "what was sent to out tells nothing apart", "-1:  of 1", STUCK);
    }

    private static void byId() {
        checks.sentence(15, "from each, in the order in which they were come to, a TURN of each INSTANCE by id");
        ChartHouse x = Checks.begun("process a(3){start{next s;}state s{}}");
        x.walk(STUCK, 0, 0);
        checks.same("the least ids first", "0 1 2", Checks.row(x));
        ChartHouse y = Checks.begun("process a(1){start{send m to c;next s;}state s{}}process b(1){start{send m to c;next s;}state s{}}"
            + "process c(1){start{next s;}state s{on m{next t;}}state t{}}");
        y.turn(2);
        walks(y, "by way of the lesser id", "2: 0 2 of 5", IN, 2, 1);
        // The shortest, though it goes by way of the larger id.
        ChartHouse z = Checks.begun("process a(1){let n=0;start{next s;}state s{when(n<5){n=n+1;}when(n==5){n=6;send m to c;}}}"
            + "process b(1){start{send m to c;next s;}state s{}}process c(1){start{next s;}state s{on m{next t;}}state t{}}");
        z.turn(2);
        z.walk(IN, 2, 1);
        checks.same("the shortest", "1 2", Checks.row(z));
    }

    private static void asEachWas() {
        checks.sentence(15, "from each .. a TURN of each INSTANCE (from the STATE as it was come to)");
        ChartHouse x = Checks.begun("process a(1){let n=0;start{next s;}state s{when(n<3){n=n+1;send m(n)to b;}}}"
            + "process b(1){let v=0;start{next s;}state s{on m(v){}}}");
        x.turn(0);
        x.turn(1);
        // So many sent, so many of them taken: 4 + 3 + 2 + 1, and the first take changes sender.
        walks(x, "values in the QUEUE", "-1:  of 10", LOST);
        ChartHouse y = Checks.begun("process a(2){start{send m to b;next s;}state s{}}process b(1){start{next s;}state s{on m{}}}");
        y.turn(2);
        walks(y, "senders in the QUEUE: 11 STATES, written out by hand", "-1:  of 11", LOST);
        ChartHouse z = inState("when(now==7){next t;}");
        z.time(7);
        walks(z, "NOW", "1: 0 of 2", IN, 0, 1);
    }

    private static void walkBehindWalk() {
        checks.sentence(15, "A walk from what there is now (nothing is left of a walk before)");
        ChartHouse x = inState("when(n<2){n=n+1;}when(n==2){n=3;send m to parent;send m to self;}");
        walks(x, "STUCK, by way of LOST and THROWN AWAY", "4: 0 0 0 0 of 5", STUCK);
        walks(x, "LOST", "3: 0 0 0 of 4", LOST);
        walks(x, "STUCK", "4: 0 0 0 0 of 5", STUCK);
        walks(x, "THROWN AWAY", "4: 0 0 0 0 of 5", THROWN);
        walks(x, "LOST", "3: 0 0 0 of 4", LOST);
        walks(x, "IN", "-1:  of 5", IN, 0, 1);
        x.run(1);
        walks(x, "one TURN later", "2: 0 0 of 3", LOST);
        Checks.system(x, "process b(1){start{stop;}}");
        walks(x, "another SYSTEM", "-1:  of 2", LOST);
    }

    private static String all(ChartHouse x) {
        StringBuilder text = new StringBuilder();
        for (int what = 0; what <= 10; what++) {
            text.append(x.count(what)).append(' ');
        }
        for (int id = 0; id < 3; id++) {
            for (int what = 0; what < 7; what++) {
                text.append(x.look(id, what)).append(' ');
            }
        }
        return text.append(x.count(13)).toString();
    }

    private static void asBefore() {
        checks.sentence(15, "All is then as before the call");
        String text = "process a(2){let v=0;start{set t 3;send m(self)to b;next s;}state s{on t{v=v+1;set t 2;make b;}save k;}}"
            + "process b(1){let w=0;start{next s;}state s{on m(w){send x to parent;}any{}}}";
        for (int what = 0; what <= 3; what++) {
            ChartHouse x = Checks.begun(text);
            x.run(4);
            x.time(1);
            Checks.outside(x, 0, "k", 5);
            x.event(0, 3);
            String before = all(x);
            x.walk(what, 1, 7);
            checks.same("what " + what, before, all(x));
            checks.same("the TRACE", "1 2 m 0 | 0 2 x 0 | 3 2 x 0 | 0 -1 k 5", Checks.events(x, 5));
            checks.same("the QUEUE", "k(5)-1", Checks.queue(x, 0));
            checks.due("VARIABLE", 0, () -> Checks.variable(x, 0, "v"));
            checks.due("the TIMERS go on from where they were", 0, () -> x.time(1));
            checks.due("and come due", 2, () -> x.time(1));
        }
        ChartHouse y = Checks.begun("process a(3){start{next s;}state s{}}");
        y.run(1);
        y.walk(STUCK, 0, 0);
        y.run(1);
        checks.due("run goes on behind its last one", 0, () -> y.look(1, 1));
        checks.due("not elsewhere", -1, () -> y.look(2, 1));
    }

    // ---------------------------------------------------------------- promise 16

    private static void actRange() {
        checks.sentence(16, "Act i of the ROW of the latest walk; there is none: IndexOutOfBoundsException");
        ChartHouse x = Checks.begun("process a(2){start{set t 1;next s;}state s{save t;}}");
        checks.due("three acts", 3, () -> x.walk(STUCK, 0, 0));
        checks.due("0", 0, () -> x.act(0));
        checks.due("1", 1, () -> x.act(1));
        checks.due("2: TIME", -1, () -> x.act(2));
        for (int i : new int[] {-1, 3, 4, 999, 1000, LEAST, LARGEST}) {
            checks.refused("act " + i, IndexOutOfBoundsException.class, () -> x.act(i));
        }
    }

    private static void actWithoutRow() {
        checks.sentence(16, "there is none: IndexOutOfBoundsException (an empty ROW)");
        ChartHouse none = new ChartHouse();
        checks.refused("no walk", IndexOutOfBoundsException.class, () -> none.act(0));
        ChartHouse x = Checks.begun("process a(1){let n=0;start{next s;}state s{when(1){n=n+1;}}}");
        checks.due("found", 1, () -> x.walk(IN, 0, 0));
        checks.due("act 0", 0, () -> x.act(0));
        checks.due("too many", -2, () -> x.walk(STUCK, 0, 0));
        checks.refused("behind -2", IndexOutOfBoundsException.class, () -> x.act(0));
        ChartHouse y = Checks.begun("process a(1){start{next s;}state s{}}");
        checks.due("found", 1, () -> y.walk(IN, 0, 0));
        checks.due("none", -1, () -> y.walk(LOST, 0, 0));
        checks.refused("behind -1", IndexOutOfBoundsException.class, () -> y.act(0));
        y.turn(0);
        checks.due("found at once", 0, () -> y.walk(STUCK, 0, 0));
        checks.refused("behind 0", IndexOutOfBoundsException.class, () -> y.act(0));
    }

    private static void rowStays() {
        checks.sentence(16, "the ROW of the latest walk (a walk that is refused changes nothing)");
        ChartHouse x = Checks.begun("process a(2){start{next s;}state s{}}");
        x.walk(STUCK, 0, 0);
        checks.refused("what", IllegalArgumentException.class, () -> x.walk(4, 0, 0));
        checks.refused("p", IllegalArgumentException.class, () -> x.walk(IN, 1, 0));
        checks.refused("s", IllegalArgumentException.class, () -> x.walk(IN, 0, 8));
        checks.due("acts", 2, () -> x.count(12));
        checks.due("STATES", 4, () -> x.count(11));
        checks.due("act 1", 1, () -> x.act(1));
        x.begin();
        x.run(5);
        Checks.system(x, "");
        checks.due("other calls leave it", 1, () -> x.act(1));
        checks.due("the next walk does not", 0, () -> x.walk(STUCK, 0, 0));
        checks.refused("act 1", IndexOutOfBoundsException.class, () -> x.act(1));
    }
}
