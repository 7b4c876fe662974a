import java.util.NoSuchElementException;

/** The boundary cases of what a SYSTEM does: promises 5 to 9. */
public final class BoundaryRunTest {
    private static final Checks checks = new Checks();
    private static final int LEAST = Integer.MIN_VALUE;
    private static final int LARGEST = Integer.MAX_VALUE;

    public static void main(String[] args) {
        roomAtBegin();
        allBeginsAnew();
        outsideNames();
        outsideToFullQueue();
        outsideValues();
        idsThatAreNotThere();
        startGoesFirst();
        priority();
        notSaved();
        anyAndThrownAway();
        continuous();
        nothing();
        valuesThatCome();
        endsOfBlocks();
        gone();
        trueAndFalse();
        comparisons();
        intsWrap();
        sendToNone();
        sendToTheLeast();
        sendToFullQueue();
        dueAtNow();
        dueAtLatest();
        fourTimers();
        setAgain();
        reset();
        fourOfAProcess();
        eightInstances();
        idsNeverTwice();
        runRange();
        runOrder();
        timeRange();
        timersDueUpToThen();
        timersInOrder();
        timersToFullQueue();
        allTimers();
        checks.finish();
    }

    /** An INSTANCE that is in its STATE s, which has the clauses. */
    private static ChartHouse inState(String clauses) {
        ChartHouse x = Checks.begun("process a(1){let v=0;let w=0;start{next s;}state s{" + clauses + "}}process none(0){start{}}");
        x.turn(0);
        return x;
    }

    private static void outside(ChartHouse x, String... names) {
        for (String name : names) {
            Checks.outside(x, 0, name, 0);
        }
    }

    private static void same(String what, String want, String got) {
        checks.same(what, want, got);
    }

    private static String last(ChartHouse x, int many) {
        return Checks.events(x, x.count(6) - many);
    }

    // ---------------------------------------------------------------- promise 5

    private static void roomAtBegin() {
        checks.sentence(5, "as many as there is room for (8)");
        String three = "process #(3){start{}}";
        ChartHouse x = Checks.begun(three.replace('#', 'a') + three.replace('#', 'b') + "process c(2){start{}}");
        checks.due("3, 3 and 2", 8, () -> x.begin());
        checks.due("the last", 2, () -> x.look(7, 0));
        ChartHouse y = Checks.begun(three.replace('#', 'a') + three.replace('#', 'b') + three.replace('#', 'c'));
        checks.due("3, 3 and 3", 8, () -> y.begin());
        checks.due("all but one", 2, () -> y.look(7, 0));
        checks.refused("there is no ninth", NoSuchElementException.class, () -> y.look(8, 0));
        checks.due("8 ids", 8, () -> y.count(4));
        checks.due("8 events", 8, () -> y.count(6));
        checks.due("nothing is LOST", 0, () -> y.count(9));
        ChartHouse z = Checks.begun(Checks.numbered(6, "process p#(3){start{}}"));
        checks.due("18", 8, () -> z.begin());
        checks.due("of the first three", 2, () -> z.look(7, 0));
        ChartHouse w = Checks.begun(Checks.numbered(6, "process p#(1){start{}}"));
        checks.due("6", 6, () -> w.begin());
        checks.sentence(5, "INSTANCES that there are at first (none)");
        checks.due("0 of 6", 0, () -> Checks.begun(Checks.numbered(6, "process p#(0){start{}}")).begin());
        checks.due("no PROCESS", 0, () -> Checks.begun("").begin());
        checks.due("0 and 1", 1, () -> Checks.begun("process a(0){start{}}process b(1){start{}}").look(0, 0));
    }

    private static void allBeginsAnew() {
        checks.sentence(5, "All begins anew: NOW 0, TRACE empty");
        ChartHouse x = Checks.begun("process a(1){let v=5;start{v=6;set t 5;set u 5;send m to parent;send m to self;make b;next s;}"
            + "state s{when(v<500){v=v+1;say v;}}}process b(0){start{}}");
        x.run(1000);
        x.time(100000);
        Checks.outside(x, 0, "k", 1);
        checks.due("the TRACE is full", 400, () -> x.count(6));
        checks.due("it has one INSTANCE", 1, () -> x.begin());
        int[] due = {0, 0, 2, 1, 1, 0, 1, 0, 0, 0, 0, 0, 0, 0};
        for (int what = 0; what < due.length; what++) {
            int asked = what;
            checks.due("count " + what, due[what], () -> x.count(asked));
        }
        int[] look = {0, -1, 0, 0, -1, -1, -1};
        for (int what = 0; what < look.length; what++) {
            int asked = what;
            checks.due("look " + what, look[what], () -> x.look(0, asked));
        }
        checks.due("VARIABLES with what they are at first", 5, () -> Checks.variable(x, 0, "v"));
        same("TRACE", "4 0 a -1", Checks.events(x, 0));
        checks.due("the TRACE has lost nothing", 1, () -> Checks.chart(x, "") == 0 && x.fits() ? 1 : 0);
    }

    // ---------------------------------------------------------------- promise 6

    private static void outsideNames() {
        checks.sentence(6, "a NAME (other: UnsupportedOperationException)");
        ChartHouse x = inState("any{}");
        for (String name : new String[] {"a", "abcdefghijk", "abcdefghijkl", "Z99999999999", " a", "a ", "\na\n", "processx", "NOW"}) {
            checks.due("NAME " + name, 1, () -> Checks.outside(x, 0, name, 0));
            x.turn(0);
        }
        String words = "process let start state on first save when any send to set reset make next stop say if else"
            + " sender self parent child out now";
        for (String other : (words + " 1 1a 1000000 ; == a; a,b abcdefghijklm a_ #").split(" ")) {
            checks.refused("other: " + other, UnsupportedOperationException.class, () -> Checks.outside(x, 0, other, 0));
        }
        for (String other : new String[] {"", " ", "a b", "a\u0000", "\u0000a", "a\t", "\u00e4", "a a", Checks.times(2000, "a")}) {
            ChartHouse y = inState("any{}");
            checks.refused("other: " + other, UnsupportedOperationException.class, () -> Checks.outside(y, 0, other, 0));
            checks.due("nothing came", 0, () -> y.count(7));
            checks.due("nothing was sent", 1, () -> y.count(6));
        }
        ChartHouse z = inState("save a;");
        checks.due("a NAME in 2000 bytes", 1, () -> Checks.outside(z, 0, Checks.times(1999, " ") + "a", 0));
        same("it came", "a(0)-1", Checks.queue(z, 0));
    }

    private static void outsideToFullQueue() {
        checks.sentence(6, "1; 0: LOST (a QUEUE of at most 8 SIGNALS)");
        ChartHouse x = inState("save m;on n{}");
        for (int i = 1; i <= 8; i++) {
            int value = i;
            checks.due("SIGNAL " + i, 1, () -> Checks.outside(x, 0, "m", value));
        }
        checks.due("the 9th", 0, () -> Checks.outside(x, 0, "n", 9));
        checks.due("there are 8", 8, () -> x.look(0, 2));
        checks.due("1 is LOST", 1, () -> x.count(9));
        same("sent, then LOST", "0 -1 n 9 | 3 -1 n 9", last(x, 2));
        checks.due("nothing can be done", 0, () -> x.turn(0));
        ChartHouse y = inState("on m{}");
        outside(y, "m", "m", "m", "m", "m", "m", "m", "m");
        y.turn(0);
        checks.due("a place is free again", 1, () -> Checks.outside(y, 0, "n", 0));
        checks.due("and full again", 0, () -> Checks.outside(y, 0, "n", 0));
        ChartHouse z = Checks.begun("process a(2){start{next s;}state s{}}");
        outside(z, "m", "m", "m", "m", "m", "m", "m", "m", "m");
        checks.due("the QUEUE of another has room", 1, () -> Checks.outside(z, 1, "m", 0));
        checks.due("it is ahead of its start", -1, () -> z.look(1, 1));
    }

    private static void outsideValues() {
        checks.sentence(6, "that SIGNAL with a value comes from OUTSIDE (sender -1)");
        ChartHouse x = inState("on m(v){}");
        for (int value : new int[] {LEAST, -1, 0, 1, 1000001, LARGEST}) {
            Checks.outside(x, 0, "m", value);
            checks.due("value", value, () -> x.queue(0, 0, 0));
            checks.due("sender", -1, () -> x.queue(0, 0, 1));
            same("event", "0 -1 m " + value, last(x, 1));
            x.turn(0);
            checks.due("it comes to the VARIABLE", value, () -> Checks.variable(x, 0, "v"));
        }
    }

    private interface OfId {
        long answer(ChartHouse x, int id);
    }

    private static void notThere(int promise, OfId call) {
        checks.sentence(promise, "NoSuchElementException: an INSTANCE that is not there");
        ChartHouse x = Checks.begun("process a(2){start{stop;}}");
        x.turn(0);
        checks.due("id 1 is there", 0, () -> x.look(1, 0));
        for (int id : new int[] {0, -1, 2, 3, 8, LEAST, LARGEST}) {
            checks.refused("id " + id, NoSuchElementException.class, () -> call.answer(x, id));
        }
    }

    private static void idsThatAreNotThere() {
        notThere(6, (x, id) -> Checks.outside(x, id, "m", 0));
        notThere(7, (x, id) -> x.turn(id));
        notThere(10, (x, id) -> x.look(id, 0));
        notThere(11, (x, id) -> Checks.variable(x, id, "m"));
        notThere(12, (x, id) -> x.queue(id, 0, 0));
    }

    // ---------------------------------------------------------------- promise 7

    private static void startGoesFirst() {
        checks.sentence(7, "the first of these that can be: START");
        ChartHouse x = Checks.begun("process a(1){start{next s;}state s{first f{}on i{}any{}when(1){}}}");
        outside(x, "f", "i", "z");
        checks.due("no STATE ahead of its start", -1, () -> x.look(0, 1));
        checks.due("START", 1, () -> x.turn(0));
        checks.due("nothing was taken", 3, () -> x.look(0, 2));
        checks.due("PRIORITY", 2, () -> x.turn(0));
        checks.due("INPUT", 3, () -> x.turn(0));
        checks.due("ANY", 4, () -> x.turn(0));
        checks.due("CONTINUOUS", 6, () -> x.turn(0));
        checks.due("START is once", 6, () -> x.turn(0));
    }

    private static void priority() {
        checks.sentence(7, "PRIORITY: the first SIGNAL of its QUEUE for which its STATE has a first CLAUSE");
        ChartHouse x = inState("on i{}first f{}first g{}");
        outside(x, "i", "i", "i", "i", "i", "i", "i", "g");
        checks.due("from the 8th place", 2, () -> x.turn(0));
        same("it was g", "1 0 g 0", last(x, 1));
        outside(x, "f");
        checks.due("from the 8th place", 2, () -> x.turn(0));
        ChartHouse y = inState("first f{}first g{}");
        outside(y, "g", "f");
        y.turn(0);
        same("the first in the QUEUE", "1 0 g 0", last(y, 1));
        ChartHouse z = inState("save k;first f{}");
        outside(z, "k", "f");
        checks.due("behind what is saved", 2, () -> z.turn(0));
        checks.due("then nothing", 0, () -> z.turn(0));
    }

    private static void notSaved() {
        checks.sentence(7, "The first SIGNAL of the QUEUE that its STATE does not save");
        ChartHouse x = inState("save k;on i{}when(v==0){v=1;}");
        outside(x, "k", "k", "k", "k", "k", "k", "k", "i");
        checks.due("in the 8th place", 3, () -> x.turn(0));
        outside(x, "k");
        checks.due("8 are saved: CONTINUOUS", 6, () -> x.turn(0));
        checks.due("8 are saved: nothing", 0, () -> x.turn(0));
        checks.due("they stay", 8, () -> x.look(0, 2));
        ChartHouse y = inState("save k;any{}");
        outside(y, "k", "z", "k");
        checks.due("ANY", 4, () -> y.turn(0));
        same("not what is saved", "k(0)-1 k(0)-1", Checks.queue(y, 0));
        checks.due("nothing", 0, () -> y.turn(0));
        ChartHouse z = inState("save k;");
        outside(z, "k", "z", "k");
        checks.due("THROWN AWAY", 5, () -> z.turn(0));
        same("not what is saved", "k(0)-1 k(0)-1", Checks.queue(z, 0));
    }

    private static void anyAndThrownAway() {
        checks.sentence(7, "ANY: there is any; else it is THROWN AWAY");
        ChartHouse x = inState("any{say 1;}on i{say 2;}");
        outside(x, "z", "i");
        checks.due("ANY", 4, () -> x.turn(0));
        checks.due("an on CLAUSE goes ahead of any, wherever it stands", 3, () -> x.turn(0));
        checks.due("nothing is THROWN AWAY", 0, () -> x.count(10));
        checks.sentence(7, "A SIGNAL that is taken (THROWN AWAY too) goes from the QUEUE; sender is its sender");
        ChartHouse y = Checks.begun("process a(2){start{send m(7)to a;next s;}state s{}}");
        y.turn(0);
        y.turn(1);
        checks.due("no sender yet", -1, () -> y.look(0, 5));
        checks.due("THROWN AWAY", 5, () -> y.turn(0));
        checks.due("its sender is itself", 0, () -> y.look(0, 5));
        same("event", "2 0 m 7", last(y, 1));
        checks.due("THROWN AWAY", 5, () -> y.turn(0));
        checks.due("its sender is the other", 1, () -> y.look(0, 5));
        checks.due("two are THROWN AWAY", 2, () -> y.count(10));
        checks.due("nothing is left", 0, () -> y.look(0, 2));
        Checks.outside(y, 0, "m", 0);
        y.turn(0);
        checks.due("OUTSIDE is -1", -1, () -> y.look(0, 5));
    }

    private static void continuous() {
        checks.sentence(7, "CONTINUOUS: the first when CLAUSE whose EXPR is true");
        ChartHouse x = inState("when(v==1){say 1;v=2;}when(v<2){say 2;v=v+1;}when(v<3){say 3;v=3;}");
        for (int i = 0; i < 3; i++) {
            checks.due("CONTINUOUS", 6, () -> x.turn(0));
        }
        checks.due("none is true", 0, () -> x.turn(0));
        same("said", "7 0  2 | 7 0  1 | 7 0  3", Checks.events(x, 1));
        ChartHouse y = inState(Checks.times(7, "when(0){}") + "when(1){say 8;}");
        checks.due("the 8th CLAUSE", 6, () -> y.turn(0));
        same("said", "7 0  8", last(y, 1));
        ChartHouse z = inState("when(1){}");
        outside(z, "m");
        checks.due("a SIGNAL goes ahead", 5, () -> z.turn(0));
        checks.due("then CONTINUOUS", 6, () -> z.turn(0));
        ChartHouse w = Checks.begun("process a(1){start{next s;}state s{" + Checks.times(8, "when(0){}") + "}state t{when(1){}}}");
        w.turn(0);
        checks.due("not that of another STATE", 0, () -> w.turn(0));
    }

    private static void nothing() {
        checks.sentence(7, "None: nothing");
        ChartHouse x = inState("save k;when(0){say 1;}on m{}");
        outside(x, "k");
        int events = x.count(6);
        checks.due("nothing", 0, () -> x.turn(0));
        checks.due("no event", events, () -> x.count(6));
        checks.due("the QUEUE", 1, () -> x.look(0, 2));
        checks.due("a STATE without CLAUSES", 0, () -> inState("").turn(0));
    }

    private static void valuesThatCome() {
        checks.sentence(7, "its value (0 without) comes to the VARIABLE");
        ChartHouse x = inState("on m(v){}first f(v){}on n{}any{}on go{send m to self;}");
        Checks.outside(x, 0, "m", 5);
        x.turn(0);
        checks.due("INPUT", 5, () -> Checks.variable(x, 0, "v"));
        Checks.outside(x, 0, "f", 6);
        x.turn(0);
        checks.due("PRIORITY", 6, () -> Checks.variable(x, 0, "v"));
        Checks.outside(x, 0, "n", 7);
        Checks.outside(x, 0, "other", 8);
        x.run(2);
        checks.due("a CLAUSE without VARIABLE", 6, () -> Checks.variable(x, 0, "v"));
        checks.due("nor another VARIABLE", 0, () -> Checks.variable(x, 0, "w"));
        outside(x, "go");
        x.run(2);
        checks.due("0 without", 0, () -> Checks.variable(x, 0, "v"));
        ChartHouse y = inState("on m(v){say v;}");
        Checks.outside(y, 0, "m", 9);
        y.turn(0);
        same("then the BLOCK", "7 0  9", last(y, 1));
    }

    private static void endsOfBlocks() {
        checks.sentence(7, "it ends with next (then it is in that STATE), with stop, or at its end (the STATE stays; behind start: as stop)");
        ChartHouse x = Checks.begun("process a(1){start{say 1;next t;say 2;}state s{}state t{on m{say 3;}on n{if(1){next s;say 4;}say 5;}}}");
        x.turn(0);
        checks.due("next", 1, () -> x.look(0, 1));
        same("no act behind it", "7 0  1", last(x, 1));
        outside(x, "m", "n");
        x.turn(0);
        checks.due("the STATE stays", 1, () -> x.look(0, 1));
        x.turn(0);
        checks.due("next within if", 0, () -> x.look(0, 1));
        same("no act behind it", "1 0 n 0", last(x, 1));
        ChartHouse y = inState("on m{say 1;stop;say 2;}");
        outside(y, "m");
        checks.due("INPUT", 3, () -> y.turn(0));
        same("no act behind stop", "1 0 m 0 | 7 0  1 | 5 0  0", last(y, 3));
        ChartHouse z = Checks.begun("process a(1){start{}}process b(1){start{if(0){next s;}say 1;}state s{}}");
        checks.due("START", 1, () -> z.turn(0));
        same("as stop", "5 0  0", last(z, 1));
        checks.due("START", 1, () -> z.turn(1));
        same("as stop", "7 1  1 | 5 1  0", last(z, 2));
        checks.due("none is there", 0, () -> z.count(3));
        ChartHouse w = inState("when(1){}");
        w.turn(0);
        checks.due("an empty BLOCK: the STATE stays", 0, () -> w.look(0, 1));
    }

    private static void gone() {
        checks.sentence(7, "stop: the INSTANCE is gone, with QUEUE and TIMERS");
        ChartHouse x = Checks.begun("process a(3){start{set t 1;set u 2;send m to self;send n to self;next s;}state s{on m{stop;}}}");
        x.run(3);
        checks.due("SIGNALS", 6, () -> x.count(7));
        checks.due("TIMERS", 6, () -> x.count(8));
        x.turn(1);
        checks.due("SIGNALS", 4, () -> x.count(7));
        checks.due("TIMERS", 4, () -> x.count(8));
        checks.due("INSTANCES", 2, () -> x.count(3));
        checks.refused("it is not there", NoSuchElementException.class, () -> x.turn(1));
        checks.due("the one behind it is", 2, () -> x.look(2, 2));
        checks.due("two come due", 2, () -> x.time(1));
        x.turn(0);
        x.turn(2);
        checks.due("none is there", 0, () -> x.count(3));
        checks.due("none comes due", 0, () -> x.time(100));
        checks.due("nothing is left to do", 0, () -> x.run(10));
        checks.due("nothing is LOST or THROWN AWAY by that", 0, () -> x.count(9) + x.count(10));
        checks.sentence(7, "make: .. else a new one (it has nothing of one that is gone)");
        ChartHouse y = Checks.begun("process a(1){start{next s;}state s{on go{make b;}}}process b(1){let v=3;let w=4;"
            + "start{v=8;w=9;set t 1;set u 1;send m to self;send m to self;make a;next s;}state s{on m{stop;}}}");
        y.turn(0);
        y.turn(1);
        y.turn(1);
        outside(y, "go");
        y.turn(0);
        int[] due = {1, -1, 0, 0, 0, -1, -1};
        for (int what = 0; what < due.length; what++) {
            int asked = what;
            checks.due("look " + what, due[what], () -> y.look(3, asked));
        }
        checks.due("VARIABLE v", 3, () -> Checks.variable(y, 3, "v"));
        checks.due("VARIABLE w", 4, () -> Checks.variable(y, 3, "w"));
        checks.due("no TIMER", 0, () -> y.time(100));
    }

    private static void says(String expression, int want) {
        ChartHouse x = Checks.begun("process a(1){let v=7;let w=1000000;start{say " + expression + ";next s;}state s{}}");
        x.turn(0);
        same("say " + expression, "7 0  " + want, Checks.event(x, 1));
    }

    private static void trueAndFalse() {
        checks.sentence(7, "Not 0 is true");
        ChartHouse x = inState("on m(v){if(v){say 1;}else{say 2;}if(v){say 3;}}on n(w){}when(w){w=0;}");
        for (int value : new int[] {LEAST, -1, 1, 2, LARGEST, 0}) {
            Checks.outside(x, 0, "m", value);
            x.turn(0);
            same("if " + value, value == 0 ? "1 0 m 0 | 7 0  2" : "7 0  1 | 7 0  3", last(x, 2));
            Checks.outside(x, 0, "n", value);
            x.turn(0);
            checks.due("when " + value, value == 0 ? 0 : 6, () -> x.turn(0));
        }
    }

    private static void comparisons() {
        checks.sentence(7, "SUM [== SUM] or SUM [< SUM] (1, 0)");
        says("7==7", 1);
        says("7==8", 0);
        says("7==6", 0);
        says("7<8", 1);
        says("7<7", 0);
        says("8<7", 0);
        says("-1<0", 1);
        says("0<-1", 0);
        String least = "-(w*2147)-483648";
        String largest = "w*2147+483647";
        says(least, LEAST);
        says(largest, LARGEST);
        says(least + "<" + largest, 1);
        says(largest + "<" + least, 0);
        says(least + "<0", 1);
        says("0<" + largest, 1);
        says(least + "==" + least, 1);
        says(largest + "+1==" + least, 1);
    }

    private static void intsWrap() {
        checks.sentence(7, "ints wrap");
        says("w*2147+483647+1", LEAST);
        says("-(w*2147)-483648-1", LARGEST);
        says("-(-(w*2147)-483648)", LEAST);
        says("w*w", -727379968);
        says("w*w*w", -1486618624);
        says("(w*2147+483647)*2", -2);
        says("(w*2147+483647)+(w*2147+483647)", -2);
        says("(0-w*2147-483648)*-1", LEAST);
        says("0-(0-w*2147-483648)", LEAST);
        checks.sentence(7, "SUM: PRODUCT {+ or - PRODUCT}; PRODUCT: SIMPLE {* SIMPLE} (from the left)");
        says("10-3-2", 5);
        says("10-3+2", 9);
        says("2+3*4-5*2", 4);
        says("-2*-3", 6);
        says("- - -5", -5);
        checks.sentence(7, "now, self, sender, parent, child (ids; -1 if there is none)");
        says("now", 0);
        says("self", 0);
        says("sender", -1);
        says("parent", -1);
        says("child", -1);
    }

    private static void sendToNone() {
        checks.sentence(7, "send: .. there is none such: LOST");
        for (String target : new String[] {"sender", "parent", "child", "none"}) {
            ChartHouse x = inState("on m{send n(5)to " + target + ";}");
            outside(x, "m");
            x.turn(0);
            same("to " + target, "0 0 n 5 | 3 0 n 5", last(x, 2));
            checks.due("LOST", 1, () -> x.count(9));
        }
        ChartHouse x = Checks.begun("process a(1){start{make b;send m(1)to child;next s;}state s{on k{send m(2)to sender;send m(3)to child;send m(4)to b;}}}"
            + "process b(0){start{send k to parent;next s;}state s{on m{stop;}}}");
        x.turn(0);
        x.turn(1);
        x.turn(1);
        x.turn(0);
        same("sender, child and the only b are gone", "0 0 m 2 | 3 0 m 2 | 0 0 m 3 | 3 0 m 3 | 0 0 m 4 | 3 0 m 4", last(x, 6));
        checks.due("child stays what it was", 1, () -> x.look(0, 6));
        ChartHouse y = Checks.begun("process a(1){start{make b;stop;}}process b(0){start{send m(9)to parent;next s;}state s{}}");
        y.turn(0);
        y.turn(1);
        same("parent is gone", "0 1 m 9 | 3 1 m 9", last(y, 2));
        checks.due("parent stays what it was", 0, () -> y.look(1, 4));
        checks.sentence(7, "send: the value 0 without EXPR; out: it comes to OUTSIDE");
        ChartHouse z = inState("on m{send n to out;send n(-1)to out;send k to self;}save k;");
        outside(z, "m");
        z.turn(0);
        same("events", "0 0 n 0 | 0 0 n -1 | 0 0 k 0", last(z, 3));
        checks.due("nothing is LOST", 0, () -> z.count(9));
        same("QUEUE", "k(0)0", Checks.queue(z, 0));
    }

    private static void sendToTheLeast() {
        checks.sentence(7, "or the least of that PROCESS");
        ChartHouse x = Checks.begun("process a(1){start{next s;}state s{on go{send m to b;}}}process b(2){start{next s;}state s{save m;on end1{stop;}}}");
        x.run(3);
        outside(x, "go");
        x.turn(0);
        checks.due("id 1", 1, () -> x.look(1, 2));
        Checks.outside(x, 1, "end1", 0);
        x.turn(1);
        outside(x, "go");
        x.turn(0);
        checks.due("id 2, when id 1 is gone", 1, () -> x.look(2, 2));
        Checks.outside(x, 2, "end1", 0);
        x.turn(2);
        outside(x, "go");
        x.turn(0);
        checks.due("none, when both are gone: LOST", 1, () -> x.count(9));
        ChartHouse y = Checks.begun("process a(2){start{send m to a;next s;}state s{}}");
        y.turn(1);
        checks.due("the least, not itself", 1, () -> y.look(0, 2));
        checks.due("it may be ahead of its start", -1, () -> y.look(0, 1));
    }

    private static void sendToFullQueue() {
        checks.sentence(7, "send: .. 8 are in the QUEUE: LOST");
        ChartHouse x = Checks.begun("process a(1){start{next s;}state s{on go{send m(1)to b;send m(2)to b;}}}process b(1){start{next s;}state s{}}");
        x.turn(0);
        for (int i = 0; i < 7; i++) {
            Checks.outside(x, 1, "k", 0);
        }
        outside(x, "go");
        x.turn(0);
        checks.due("the 8th has room", 8, () -> x.look(1, 2));
        same("the 9th is LOST", "0 0 m 1 | 0 0 m 2 | 3 0 m 2", last(x, 3));
        checks.due("the 8th is m", 1, () -> x.queue(1, 7, 0));
        ChartHouse y = inState("on go{send m to self;send m to self;}save k;save m;");
        outside(y, "k", "k", "k", "k", "k", "k", "k", "go");
        y.turn(0);
        checks.due("what was taken left a place", 8, () -> y.look(0, 2));
        checks.due("for one", 1, () -> y.count(9));
    }

    private static ChartHouse waiting(int value) {
        ChartHouse x = inState("on go(v){set t v;}any{}");
        Checks.outside(x, 0, "go", value);
        x.turn(0);
        return x;
    }

    private static void dueAtNow() {
        checks.sentence(7, "set: .. is due at NOW + EXPR (below 1: at NOW ..)");
        for (int value : new int[] {0, -1, -1000001, LEAST}) {
            ChartHouse x = waiting(value);
            checks.due("it is set: " + value, 1, () -> x.look(0, 3));
            checks.due("it is not due of itself", 0, () -> x.look(0, 2));
            checks.due("due at NOW: " + value, 1, () -> x.time(0));
            checks.due("once", 0, () -> x.time(0));
        }
        ChartHouse x = waiting(1);
        checks.due("1 is not at NOW", 0, () -> x.time(0));
        checks.due("but 1 later", 1, () -> x.time(1));
        ChartHouse y = inState("on go{set p 0;set q -1;set r 0-1000000*2000;set t 0;}");
        y.time(77);
        outside(y, "go");
        y.turn(0);
        checks.due("NOW is 77", 4, () -> y.time(0));
        same("all at NOW: as they were set", "6 0 p 0 | 6 0 q 0 | 6 0 r 0 | 6 0 t 0", last(y, 4));
    }

    private static void dueAtLatest() {
        checks.sentence(7, "set: .. (.. above 1000000: as 1000000)");
        int[][] cases = {{999999, 99999}, {1000000, 100000}, {1000001, 100000}, {1000000000, 100000}, {LARGEST, 100000}};
        for (int[] one : cases) {
            ChartHouse x = inState("on go(v){set t v;}any{}");
            x.time(13);
            Checks.outside(x, 0, "go", one[0]);
            x.turn(0);
            for (int i = 0; i < 9; i++) {
                checks.due("not at " + i, 0, () -> x.time(100000));
            }
            checks.due("not yet: " + one[0], 0, () -> x.time(one[1] - 1));
            checks.due("due: " + one[0], 1, () -> x.time(1));
        }
    }

    private static void fourTimers() {
        checks.sentence(7, "set: .. 4 others are set: LOST");
        ChartHouse x = inState("on go{set a 5;set b 5;set c 5;set d 5;}on e{set e 5;}on again{set d 9;}on less{reset a;}any{}");
        outside(x, "go");
        x.turn(0);
        checks.due("4 are set", 4, () -> x.look(0, 3));
        checks.due("nothing is LOST", 0, () -> x.count(9));
        outside(x, "e");
        x.turn(0);
        checks.due("4 are set", 4, () -> x.look(0, 3));
        checks.due("the 5th is LOST", 1, () -> x.count(9));
        same("event", "3 0 e 0", last(x, 1));
        outside(x, "again");
        x.turn(0);
        checks.due("one of the 4 can be set again", 1, () -> x.count(9));
        checks.due("4 are set", 4, () -> x.look(0, 3));
        outside(x, "less", "e");
        x.run(2);
        checks.due("with 3 others there is room", 1, () -> x.count(9));
        checks.due("b, c and e come due, d later", 3, () -> x.time(5));
        checks.due("d", 1, () -> x.time(4));
        ChartHouse y = Checks.begun("process a(2){start{set a 5;set b 5;set c 5;set d 5;next s;}state s{}}");
        y.run(2);
        checks.due("4 of each", 8, () -> y.count(8));
        checks.due("nothing is LOST", 0, () -> y.count(9));
    }

    private static void setAgain() {
        checks.sentence(7, "the TIMER of that NAME (once; it is reset ahead of that, if it is set)");
        ChartHouse x = inState("on go(v){set t v;}save t;on me{send t(3)to self;}any{}");
        Checks.outside(x, 0, "go", 5);
        Checks.outside(x, 0, "go", 7);
        x.run(2);
        checks.due("once", 1, () -> x.look(0, 3));
        checks.due("not at 5, nor at 6", 0, () -> x.time(6));
        outside(x, "me", "t");
        x.turn(0);
        same("what it sent itself waits", "t(0)-1 t(3)0", Checks.queue(x, 0));
        Checks.outside(x, 0, "go", 2);
        x.turn(0);
        same("reset ahead of that", "t(0)-1", Checks.queue(x, 0));
        checks.due("not at 7", 0, () -> x.time(1));
        checks.due("at 8", 1, () -> x.time(1));
        same("it came due", "t(0)-1 t(0)0", Checks.queue(x, 0));
        Checks.outside(x, 0, "go", 1);
        x.turn(0);
        same("it was not set: its SIGNAL stays", "t(0)-1 t(0)0", Checks.queue(x, 0));
        checks.due("set", 1, () -> x.look(0, 3));
    }

    private static void reset() {
        checks.sentence(7, "reset: it is set no more; and its SIGNALS in the QUEUE (NAME, own id as sender) go");
        ChartHouse x = Checks.begun("process a(1){start{next s;}state s{on go{set t 1;set u 9;}on end1{reset t;}on me{send t to self;send k to self;}save t;save k;save u;}}"
            + "process b(1){start{send t to a;next s;}state s{}}");
        x.turn(0);
        outside(x, "go", "t", "me");
        x.run(3);
        checks.due("t comes due", 1, () -> x.time(1));
        same("QUEUE", "t(0)-1 t(0)1 t(0)0 k(0)0 t(0)0", Checks.queue(x, 0));
        outside(x, "end1");
        x.turn(0);
        same("those of OUTSIDE, of another and of another NAME stay", "t(0)-1 t(0)1 k(0)0", Checks.queue(x, 0));
        checks.due("the other TIMER stays", 1, () -> x.look(0, 3));
        int events = x.count(6);
        checks.due("nothing is LOST or THROWN AWAY by that", 0, () -> x.count(9) + x.count(10));
        outside(x, "end1");
        x.turn(0);
        same("one that is not set: nothing", "t(0)-1 t(0)1 k(0)0", Checks.queue(x, 0));
        checks.due("sent and taken, no more", events + 2, () -> x.count(6));
        ChartHouse y = inState("on go{set a 5;set b 5;set c 5;set d 5;reset b;reset d;reset none;}");
        outside(y, "go");
        y.turn(0);
        checks.due("two are left", 2, () -> y.look(0, 3));
        y.time(5);
        same("a and c", "6 0 a 0 | 6 0 c 0", last(y, 2));
        ChartHouse z = inState("save t;when(v<8){v=v+1;send t to self;}when(v==8){v=9;reset t;}");
        checks.due("8 are sent", 8, () -> z.run(8));
        checks.due("8 are in the QUEUE", 8, () -> z.look(0, 2));
        checks.due("CONTINUOUS", 6, () -> z.turn(0));
        checks.due("all 8 go", 0, () -> z.look(0, 2));
        ChartHouse w = inState("save t;on go{send t to self;send t to self;reset t;send t to self;}");
        outside(w, "t", "go", "t");
        w.turn(0);
        same("all that are there then", "t(0)-1 t(0)-1 t(0)0", Checks.queue(w, 0));
    }

    private static void fourOfAProcess() {
        checks.sentence(7, "make: .. or 4 of it: child is -1, LOST");
        ChartHouse x = Checks.begun("process a(1){start{next s;}state s{on go{make b;}on me{make a;}}}process b(1){start{next s;}state s{on end1{stop;}}}");
        x.turn(0);
        for (int i = 2; i <= 4; i++) {
            int made = i;
            outside(x, "go");
            x.turn(0);
            checks.due("b number " + i, made, () -> x.look(0, 6));
            same("event", "4 " + made + " b 0", last(x, 1));
        }
        outside(x, "go");
        x.turn(0);
        checks.due("the 5th: child is -1", -1, () -> x.look(0, 6));
        same("LOST", "3 0 b 0", last(x, 1));
        checks.due("LOST", 1, () -> x.count(9));
        checks.due("no id is given", 5, () -> x.count(4));
        outside(x, "me");
        x.turn(0);
        checks.due("another PROCESS has room", 5, () -> x.look(0, 6));
        x.turn(1);
        Checks.outside(x, 1, "end1", 0);
        x.turn(1);
        outside(x, "go");
        x.turn(0);
        checks.due("and b again, when one is gone", 6, () -> x.look(0, 6));
        checks.due("its parent", 0, () -> x.look(6, 4));
        checks.due("1 is LOST", 1, () -> x.count(9));
        ChartHouse y = inState("when(v<4){v=v+1;make a;}");
        for (int i = 1; i <= 4; i++) {
            int made = i < 4 ? i : -1;
            checks.due("CONTINUOUS", 6, () -> y.turn(0));
            checks.due("its own PROCESS counts itself", made, () -> y.look(0, 6));
        }
        checks.due("4 of a", 4, () -> y.count(3));
        checks.due("1 is LOST", 1, () -> y.count(9));
    }

    private static void eightInstances() {
        checks.sentence(7, "make: 8 are there ..: child is -1, LOST");
        String text = "process a(3){start{make c;next s;}state s{on end1{stop;}}}process b(3){start{next s;}state s{on end1{stop;}}}"
            + "process c(1){start{next s;}state s{on end1{stop;}}}";
        ChartHouse x = Checks.begun(text);
        checks.due("7 are there", 7, () -> x.count(3));
        x.turn(0);
        checks.due("the 8th", 7, () -> x.look(0, 6));
        checks.due("8 are there", 8, () -> x.count(3));
        x.turn(1);
        checks.due("the 9th: child is -1", -1, () -> x.look(1, 6));
        same("LOST", "3 1 c 0", last(x, 1));
        checks.due("8 are there", 8, () -> x.count(3));
        checks.due("2 of c", 2, () -> x.look(7, 0));
        x.turn(3);
        Checks.outside(x, 3, "end1", 0);
        x.turn(3);
        x.turn(2);
        checks.due("when one is gone there is room", 8, () -> x.look(2, 6));
        checks.due("1 is LOST", 1, () -> x.count(9));
    }

    private static void idsNeverTwice() {
        checks.sentence(7, "INSTANCES have ids 0, 1, .. as they are made, never twice");
        ChartHouse x = Checks.begun("process a(1){let n=0;start{next s;}state s{when(n<100){n=n+1;make b;next t;}}state t{on k{next s;}}}"
            + "process b(0){start{send k to parent;stop;}}");
        checks.due("301 TURNS", 301, () -> x.run(1000));
        checks.due("101 ids", 101, () -> x.count(4));
        checks.due("child", 100, () -> x.look(0, 6));
        checks.due("1 is there", 1, () -> x.count(3));
        checks.due("begin gives them anew", 1, () -> x.begin());
        checks.due("1 id", 1, () -> x.count(4));
    }

    // ---------------------------------------------------------------- promise 8

    private static void runRange() {
        checks.sentence(8, "n at most, 0 .. 1000");
        ChartHouse x = inState("when(1){v=v+1;}");
        checks.refused("-1", IllegalArgumentException.class, () -> x.run(-1));
        checks.refused("1001", IllegalArgumentException.class, () -> x.run(1001));
        checks.refused("the least int", IllegalArgumentException.class, () -> x.run(LEAST));
        checks.refused("the largest int", IllegalArgumentException.class, () -> x.run(LARGEST));
        checks.due("nothing was done", 0, () -> Checks.variable(x, 0, "v"));
        checks.due("0", 0, () -> x.run(0));
        checks.due("nothing was done", 0, () -> Checks.variable(x, 0, "v"));
        checks.due("1", 1, () -> x.run(1));
        checks.due("1 was done", 1, () -> Checks.variable(x, 0, "v"));
        checks.due("1000", 1000, () -> x.run(1000));
        checks.due("1001 were done", 1001, () -> Checks.variable(x, 0, "v"));
        checks.due("999", 999, () -> x.run(999));
        checks.sentence(8, "n at most .. Answers how many (fewer, if nothing can be done)");
        ChartHouse y = inState("when(v<3){v=v+1;}");
        checks.due("3 of 4", 3, () -> y.run(4));
        checks.due("none", 0, () -> y.run(1000));
        ChartHouse z = inState("when(v<3){v=v+1;}");
        checks.due("3 of 3", 3, () -> z.run(3));
        checks.due("no INSTANCE", 0, () -> Checks.begun("process a(0){start{}}").run(1000));
    }

    private static void runOrder() {
        checks.sentence(8, "behind that of the last one of the latest run, else from the least on (since begin first from id 0)");
        ChartHouse x = Checks.begun("process a(3){start{next s;}state s{on m{say self;}on end1{stop;}}}");
        x.run(3);
        for (int i = 0; i < 6; i++) {
            Checks.outside(x, i % 3, "m", 0);
        }
        x.run(1);
        same("behind id 2: from the least on", "7 0  0", last(x, 1));
        x.run(1);
        same("behind id 0", "7 1  1", last(x, 1));
        x.run(3);
        same("round", "7 1  1", last(x, 1));
        x.run(1);
        same("id 2 is left", "7 2  2", last(x, 1));
        Checks.outside(x, 2, "m", 0);
        Checks.outside(x, 2, "m", 0);
        checks.due("the last one again, if no other can do something", 2, () -> x.run(9));
        Checks.outside(x, 0, "m", 0);
        Checks.outside(x, 1, "end1", 0);
        Checks.outside(x, 2, "m", 0);
        x.run(2);
        checks.due("id 1 is gone", 2, () -> x.count(3));
        Checks.outside(x, 0, "m", 0);
        x.run(1);
        same("behind id 1, which is gone", "7 2  2", last(x, 1));
        x.begin();
        x.run(1);
        x.begin();
        x.run(1);
        checks.due("since begin from id 0", 0, () -> x.look(0, 1));
        checks.due("not from id 1", -1, () -> x.look(1, 1));
        ChartHouse y = Checks.begun("process a(3){start{next s;}state s{}}");
        y.turn(0);
        y.run(1);
        checks.due("id 0 can do nothing", 0, () -> y.look(1, 1));
        y.turn(2);
        checks.due("a TURN by itself does not count", 0, () -> y.run(1));
    }

    // ---------------------------------------------------------------- promise 9

    private static void timeRange() {
        checks.sentence(9, "NOW is n more, 0 .. 100000");
        ChartHouse x = inState("");
        checks.refused("-1", IllegalArgumentException.class, () -> x.time(-1));
        checks.refused("100001", IllegalArgumentException.class, () -> x.time(100001));
        checks.refused("the least int", IllegalArgumentException.class, () -> x.time(LEAST));
        checks.refused("the largest int", IllegalArgumentException.class, () -> x.time(LARGEST));
        checks.due("NOW", 0, () -> x.count(5));
        checks.due("0", 0, () -> x.time(0));
        checks.due("NOW", 0, () -> x.count(5));
        checks.due("1", 0, () -> x.time(1));
        checks.due("100000", 0, () -> x.time(100000));
        checks.due("NOW", 100001, () -> x.count(5));
        for (int i = 0; i < 400; i++) {
            x.time(100000);
        }
        checks.due("NOW goes on and on", 40100001, () -> x.count(5));
    }

    private static void timersDueUpToThen() {
        checks.sentence(9, "all TIMERS that are due up to then");
        ChartHouse x = inState("on go{set a 0;set b 9;set c 10;set d 11;}any{}");
        outside(x, "go");
        x.turn(0);
        checks.due("a, b and c", 3, () -> x.time(10));
        checks.due("d is set", 1, () -> x.look(0, 3));
        checks.due("nothing at NOW", 0, () -> x.time(0));
        checks.due("d", 1, () -> x.time(1));
        checks.due("none is set", 0, () -> x.look(0, 3));
        checks.due("none", 0, () -> x.time(100000));
        same("each is set no more and comes to the QUEUE", "a(0)0 b(0)0 c(0)0 d(0)0", Checks.queue(x, 0));
    }

    private static void timersInOrder() {
        checks.sentence(9, "by when they are due, then by id, then as they were set");
        ChartHouse x = Checks.begun("process a(2){start{next s;}state s{on go{set z 5;set y 3;set x 5;set w 4;}}}");
        x.run(2);
        Checks.outside(x, 1, "go", 0);
        Checks.outside(x, 0, "go", 0);
        x.turn(1);
        x.turn(0);
        checks.due("8", 8, () -> x.time(5));
        same("events", "6 0 y 0 | 6 1 y 0 | 6 0 w 0 | 6 1 w 0 | 6 0 z 0 | 6 0 x 0 | 6 1 z 0 | 6 1 x 0", last(x, 8));
        ChartHouse y = inState("on go{set p 5;set q 5;set r 5;set p 5;}");
        outside(y, "go");
        y.turn(0);
        y.time(5);
        same("set again is set later", "6 0 q 0 | 6 0 r 0 | 6 0 p 0", last(y, 3));
        ChartHouse w = inState("on go{set p 5;set q 5;set r 5;set t 1;}");
        outside(w, "go");
        w.turn(0);
        checks.due("one", 1, () -> w.time(1));
        same("the last that was set is due first", "6 0 t 0", last(w, 1));
        ChartHouse z = inState("on go{set p 3;}on on1{set q 1;}");
        outside(z, "go");
        z.turn(0);
        z.time(2);
        outside(z, "on1");
        z.turn(0);
        z.time(9);
        same("both due at 3: as they were set", "6 0 p 0 | 6 0 q 0", last(z, 2));
    }

    private static void timersToFullQueue() {
        checks.sentence(9, "its SIGNAL .. comes to the end of the QUEUE of its INSTANCE, or is LOST");
        ChartHouse x = inState("on go{set t 3;set u 3;}save k;");
        outside(x, "go");
        x.turn(0);
        outside(x, "k", "k", "k", "k", "k", "k", "k");
        checks.due("2 came due", 2, () -> x.time(3));
        checks.due("8 are in the QUEUE", 8, () -> x.look(0, 2));
        checks.due("1 is LOST", 1, () -> x.count(9));
        same("events", "6 0 t 0 | 6 0 u 0 | 3 0 u 0", last(x, 3));
        checks.due("it is set no more", 0, () -> x.look(0, 3));
        x.queue(0, 7, 2);
        same("t is at the end", "t", Checks.out(x));
        checks.due("its value", 0, () -> x.queue(0, 7, 0));
        checks.due("its sender", 0, () -> x.queue(0, 7, 1));
    }

    private static void allTimers() {
        checks.sentence(9, "Answers how many TIMERS came due (8 INSTANCES with 4 TIMERS)");
        ChartHouse x = Checks.begun("process a(3){start{set p 1;set q 2;set r 3;set t 4;next s;}state s{}}"
            + "process b(3){start{set p 1;set q 2;set r 3;set t 4;next s;}state s{}}process c(2){start{set p 1;set q 2;set r 3;set t 4;next s;}state s{}}");
        x.run(8);
        checks.due("TIMERS", 32, () -> x.count(8));
        checks.due("all at once", 32, () -> x.time(100000));
        checks.due("TIMERS", 0, () -> x.count(8));
        checks.due("SIGNALS", 32, () -> x.count(7));
        checks.due("NOW", 100000, () -> x.count(5));
    }
}
