/**
 * The boundary cases of charts: promises 17 to 20. In a text, @ stands ahead of the byte that can't stand.
 */
public final class BoundaryChartTest {
    private static final Checks checks = new Checks();
    private static final int LEAST = Integer.MIN_VALUE;
    private static final int LARGEST = Integer.MAX_VALUE;
    private static final String FORTY = Checks.times(40, "a>b:m;");
    private static final String EIGHT = "a>b:m;c>d:m;e>f:m;g>h:m;";

    public static void main(String[] args) {
        empty();
        fortyMessages();
        eightInstances();
        outIsAnInstance();
        outToOut();
        somethingLacks();
        firstThatCantStand();
        namesOfCharts();
        whatWasStays();
        oneBehindTheOther();
        fitsNeedsBoth();
        emptyRun();
        allAreDone();
        nextOnItsLine();
        sameKindNameAndProcess();
        allBytesOfNames();
        comesFromInQueue();
        toItself();
        toAndFromOutside();
        lostOnesLeftOut();
        timersLeftOut();
        thrownAwayIsNotTaken();
        linesOfProcesses();
        traceThatLost();
        longestRun();
        noRaces();
        racesOfTaken();
        whatFollows();
        manyRaces();
        racesBehindEvent64();
        raceRange();
        raceSides();
        raceOrder();
        checks.finish();
    }

    private static void stands(int messages, String text) {
        checks.due("stands: " + text, messages, () -> Checks.chart(new ChartHouse(), text));
    }

    private static void fault(String marked) {
        int place = marked.indexOf('@');
        String text = marked.replace("@", "");
        checks.due("can't stand: " + marked, -1 - place, () -> Checks.chart(new ChartHouse(), text));
    }

    // ---------------------------------------------------------------- promise 17

    private static void empty() {
        checks.sentence(17, "CHART (THE TAPE): {INSTANCE > INSTANCE : NAME ;} (none)");
        stands(0, "");
        stands(0, " \n ");
        stands(0, Checks.times(2000, "\n"));
        stands(1, "a>b:m;");
        stands(1, " \n a \n > \n b \n : \n m \n ; \n ");
        ChartHouse x = new ChartHouse();
        x.chart();
        checks.due("an empty CHART is one", 0, () -> x.races());
    }

    private static void fortyMessages() {
        checks.sentence(17, "at most 40 messages");
        stands(39, Checks.times(39, "a>b:m;"));
        stands(40, FORTY);
        stands(40, FORTY + " \n");
        fault(FORTY + "@a>b:m;");
        fault(FORTY + " @a>b:m;a>b:m;");
        fault(FORTY + "@out>a:m;");
        fault(FORTY + "@a");
        fault(FORTY + "@;");
        ChartHouse x = new ChartHouse();
        Checks.chart(x, FORTY);
        checks.due("messages", 40, () -> x.count(13));
    }

    private static void eightInstances() {
        checks.sentence(17, "8 different INSTANCES");
        stands(4, EIGHT);
        stands(6, EIGHT + "a>h:m;h>a:m;");
        fault(EIGHT + "@i>a:m;");
        fault(EIGHT + "a>@i:m;");
        fault(EIGHT + "@i>j:m;");
        fault("a>b:m;c>d:m;e>f:m;g>g:m;h>@i:m;");
        stands(5, "a>b:m;c>d:m;e>f:m;g>g:m;h>h:m;");
        // NAMES of messages are no INSTANCES.
        stands(40, Checks.numbered(40, "a>b:m#;"));
        stands(4, EIGHT.replace("m", "z"));
        // In the order of the text.
        fault(EIGHT + "a>@i:m;a>b:");
        fault(EIGHT + "a>b:@;i>a:m;");
    }

    private static void outIsAnInstance() {
        checks.sentence(17, "INSTANCE a NAME or out .. 8 different INSTANCES");
        stands(4, "a>b:m;c>d:m;e>f:m;g>out:m;");
        stands(4, "out>a:m;b>c:m;d>e:m;f>g:m;");
        fault("out>a:m;b>c:m;d>e:m;f>g:m;@h>a:m;");
        stands(5, "a>b:m;c>d:m;e>f:m;g>out:m;out>a:m;");
        fault("a>b:m;c>d:m;e>f:m;g>out:m;@h>a:m;");
        fault(EIGHT + "@out>a:m;");
        fault(EIGHT + "a>@out:m;");
        for (String word : ("process let start state on first save when any send to set reset make next stop say if else"
            + " sender self parent child now").split(" ")) {
            fault("@" + word + ">b:m;");
            fault("a>@" + word + ":m;");
            fault("a>b:@" + word + ";");
        }
        fault("a>b:@out;");
    }

    private static void outToOut() {
        checks.sentence(17, "out > out is one that can't stand: the second out");
        fault("out>@out:m;");
        fault("a>b:m; out > @out : m;");
        fault("out>@out");
        fault("out>@out#");
        stands(2, "out>a:m;a>out:m;");
        stands(1, "a>a:m;");
    }

    private static void somethingLacks() {
        checks.sentence(17, "-1 - PLACE of what can't stand (the length, if something lacks)");
        String[] tokens = {"a", ">", "b", ":", "m", ";"};
        StringBuilder text = new StringBuilder();
        for (int i = 0; i < 17; i++) {
            text.append(tokens[i % 6]);
            if (i % 6 < 5) {
                fault(text + "@");
                fault(text + " \n@");
            } else {
                stands((i + 1) / 6, text.toString());
            }
        }
        fault("a" + Checks.times(1999, " ") + "@");
    }

    private static void firstThatCantStand() {
        checks.sentence(17, "-1 - PLACE of what can't stand");
        for (String text : new String[] {"@;", "@>b:m;", "@5>b:m;", "@#", "a@:b", "a@;", "a @b>c:m;", "a@==b:m;", "a>@;", "a>@5:m;", "a>@>b:m;",
            "a>b@>c", "a>b@;", "a>b @m;", "a>b:@;", "a>b:@5;", "a>b:m@,", "a>b:m@:n;", "a>b:m@(1);", "a>b:m;@;", "a>b:m;@}", "a>b:m @\t;"}) {
            fault(text);
        }
        fault("@\u0000");
        fault("a>b:m;@\u00ff");
    }

    private static void namesOfCharts() {
        checks.sentence(17, "NAME: .. at most 12 bytes (in a CHART)");
        stands(1, "abcdefghijkl>abcdefghijkm:abcdefghijkn;");
        fault("@abcdefghijklm>b:m;");
        fault("a>@abcdefghijklm:m;");
        fault("a>b:@abcdefghijklm;");
    }

    private static void whatWasStays() {
        checks.sentence(17, "-1 - PLACE of what can't stand (what was stays)");
        for (String bad : new String[] {"#", "a", FORTY + "a>b:m;", EIGHT + "i>a:m;", "a>b:m;a>b:m;a>b:m;out>out:m;"}) {
            ChartHouse x = Checks.begun("process a(1){start{send m to b;send n to b;next s;}state s{}}process b(1){start{next s;}state s{on m{}on n{}}}");
            x.run(9);
            Checks.chart(x, "a>b:m;a>b:n;");
            checks.same("can't stand", "true", "" + (Checks.chart(x, bad) < 0));
            checks.due("messages", 2, () -> x.count(13));
            checks.due("RACES", 1, () -> x.races());
            checks.due("the first", 1, () -> x.race(0, 0));
            checks.due("the other", 3, () -> x.race(0, 1));
            checks.due("it fits", 1, () -> x.fits() ? 1 : 0);
        }
        ChartHouse y = new ChartHouse();
        Checks.chart(y, "a>b:m;c>b:m;");
        checks.due("a new one goes in its place", 1, () -> Checks.chart(y, "a>b:m;"));
        checks.due("no RACE is left", 0, () -> y.races());
    }

    private static void oneBehindTheOther() {
        checks.sentence(17, "THE TAPE is the CHART (nothing is left of what was before)");
        ChartHouse x = new ChartHouse();
        for (int i = 0; i < 8; i++) {
            // The messages have one NAME or several, so that the INSTANCES are not told in the same places.
            String kind = i % 3 == 0 ? EIGHT : i % 3 == 1 ? "a>b:m;c>d:n;e>f:k;g>h:l;" : "a>a:m;b>b:n;c>d:m;e>f:n;g>out:m;";
            String text = kind.replace("out", "Z").replace(">", i + ">").replace(":", i + ":").replace("Z" + i, "out");
            int messages = i % 3 == 2 ? 5 : 4;
            checks.due("8 INSTANCES of their own", messages, () -> Checks.chart(x, text));
            checks.due("no RACE", 0, () -> x.races());
            checks.due("a 9th", -1 - text.length(), () -> Checks.chart(x, text + "z>z:m;"));
        }
        for (int i = 0; i < 4; i++) {
            String many = Checks.numbered(40, "a" + i + ">b" + i + ":m" + i + "x#;");
            checks.due("40 messages", 40, () -> Checks.chart(x, many));
            checks.due("RACES", 780, () -> x.races());
            checks.due("none", 0, () -> Checks.chart(x, ""));
            checks.due("no RACES", 0, () -> x.races());
        }
    }

    // ---------------------------------------------------------------- promise 18

    private static void fit(ChartHouse x, String text, boolean want) {
        checks.same("it stands: " + text, "true", "" + (Checks.chart(x, text) >= 0));
        checks.due("fits: " + text, want ? 1 : 0, () -> x.fits() ? 1 : 0);
    }

    private static void fitsNeedsBoth() {
        checks.sentence(18, "IllegalStateException: there is no SYSTEM (CHART)");
        checks.refused("neither", IllegalStateException.class, () -> new ChartHouse().fits() ? 1 : 0);
        checks.refused("no CHART", IllegalStateException.class, () -> Checks.begun("").fits() ? 1 : 0);
        ChartHouse x = new ChartHouse();
        Checks.chart(x, "");
        checks.refused("no SYSTEM", IllegalStateException.class, () -> x.fits() ? 1 : 0);
        Checks.system(x, "");
        checks.due("both", 1, () -> x.fits() ? 1 : 0);
    }

    private static void emptyRun() {
        checks.sentence(18, "at the end all EVENTS are done (none of none)");
        fit(Checks.begun(""), "", true);
        fit(Checks.begun(""), "a>b:m;", false);
        ChartHouse x = Checks.begun("process a(1){start{say 1;make a;set t 1;next s;}state s{}}");
        x.run(9);
        x.time(1);
        x.run(9);
        fit(x, "", true);
        fit(x, "a>a:m;", false);
    }

    private static ChartHouse pingPong(int turns) {
        ChartHouse x = Checks.begun("process a(1){start{send m to b;next s;}state s{on n{}}}process b(1){start{next s;}state s{on m{send n to a;}}}");
        x.turn(1);
        int[] ids = {0, 1, 0};
        for (int i = 0; i < turns; i++) {
            x.turn(ids[i]);
        }
        return x;
    }

    private static void allAreDone() {
        checks.sentence(18, "each of them is the next EVENT .., and at the end all EVENTS are done");
        fit(pingPong(0), "a>b:m;b>a:n;", false);
        fit(pingPong(1), "a>b:m;b>a:n;", false);
        fit(pingPong(2), "a>b:m;b>a:n;", false);
        fit(pingPong(3), "a>b:m;b>a:n;", true);
        fit(pingPong(3), "a>b:m;b>a:n;a>b:m;", false);
        fit(pingPong(3), "a>b:m;", false);
        fit(pingPong(3), "", false);
        fit(pingPong(3), "a>b:m;b>a:n;c>d:k;", false);
        fit(pingPong(1), "a>b:m;", false);
        fit(pingPong(0), "", true);
        ChartHouse x = Checks.begun("process a(1){start{send k to b;send m to b;send l to b;next s;}state s{}}process b(1){start{next s;}state s{any{}}}");
        x.run(9);
        fit(x, "a>b:k;a>b:m;a>b:l;", true);
        fit(x, "a>b:m;a>b:l;", false);
        fit(x, "a>b:k;a>b:l;", false);
        fit(x, "a>b:k;a>b:m;", false);
        fit(x, "a>b:m;", false);
    }

    private static void nextOnItsLine() {
        checks.sentence(18, "the next EVENT on the LINE of its PROCESS (out) that is not done");
        ChartHouse x = Checks.begun("process a(1){start{send m to b;send n to c;next s;}state s{}}process b(1){start{next s;}state s{on m{}}}"
            + "process c(1){start{next s;}state s{on n{}}}");
        x.turn(0);
        x.turn(1);
        x.turn(2);
        x.turn(2);
        x.turn(1);
        fit(x, "a>b:m;a>c:n;", true);
        fit(x, "a>c:n;a>b:m;", false);
        ChartHouse y = Checks.begun("process a(1){start{send m to b;send n to b;next s;}state s{}}process b(1){start{next s;}state s{first n{}on m{}}}");
        y.run(9);
        fit(y, "a>b:m;a>b:n;", false);
        fit(y, "a>b:n;a>b:m;", false);
    }

    private static void sameKindNameAndProcess() {
        checks.sentence(18, "(same kind, NAME, and the PROCESS it goes to or comes from)");
        for (String other : new String[] {"a>b:n;b>a:n;", "a>b:m;b>a:m;", "a>b:m;a>b:n;", "b>a:m;b>a:n;", "a>a:m;b>a:n;", "a>b:m;b>b:n;",
            "a>out:m;b>a:n;", "out>b:m;b>a:n;", "a>c:m;b>a:n;", "c>b:m;b>a:n;", "a>b:m;c>a:n;", "a>b:m;b>c:n;", "A>b:m;b>A:n;", "a>b:M;b>a:n;"}) {
            fit(pingPong(3), other, false);
        }
    }

    private static void allBytesOfNames() {
        checks.sentence(18, "same .. NAME (all of its 12 bytes)");
        ChartHouse x = Checks.begun("process Abcdefghijkl(1){start{send abcdefghijkl to self;next s;}state s{on abcdefghijkl{}}}");
        x.run(9);
        fit(x, "Abcdefghijkl>Abcdefghijkl:abcdefghijkl;", true);
        for (int i = 0; i < 12; i++) {
            char[] other = "abcdefghijkl".toCharArray();
            other[i] = '0';
            String name = new String(other);
            if (i > 0) {
                fit(x, "Abcdefghijkl>Abcdefghijkl:" + name + ";", false);
                fit(x, "A" + name.substring(1) + ">A" + name.substring(1) + ":abcdefghijkl;", false);
            }
        }
        fit(x, "Abcdefghijkl>Abcdefghijkl:abcdefghijk;", false);
        fit(x, "Abcdefghijkl>Abcdefghijkl:abcdefgh;", false);
    }

    private static void comesFromInQueue() {
        checks.sentence(18, "the PROCESS it .. comes from (of each SIGNAL in a QUEUE)");
        ChartHouse x = Checks.begun("process a(1){start{send m to c;next s;}state s{}}process b(1){start{send m to c;next s;}state s{}}"
            + "process c(1){start{next s;}state s{on m{}first t{}}}");
        x.run(3);
        Checks.outside(x, 2, "m", 0);
        x.run(9);
        fit(x, "a>c:m;b>c:m;out>c:m;", true);
        fit(x, "b>c:m;a>c:m;out>c:m;", false);
        fit(x, "a>c:m;out>c:m;b>c:m;", false);
        fit(x, "a>c:m;a>c:m;out>c:m;", false);
    }

    private static void toItself() {
        checks.sentence(18, "(to itself: sent, then taken)");
        ChartHouse x = Checks.begun("process a(1){start{send m to self;next s;}state s{on m{send n to self;}on n{}}}");
        x.turn(0);
        fit(x, "a>a:m;", false);
        x.turn(0);
        x.turn(0);
        fit(x, "a>a:m;a>a:n;", true);
        ChartHouse y = Checks.begun("process a(1){start{send m to self;send n to self;next s;}state s{on m{}on n{}}}");
        y.run(9);
        fit(y, "a>a:m;a>a:n;", false);
        ChartHouse z = Checks.begun("process a(2){start{next s;}state s{on go{send m to a;}on m{}}}");
        z.run(2);
        Checks.outside(z, 1, "go", 0);
        z.run(2);
        fit(z, "out>a:go;a>a:m;", true);
    }

    private static void toAndFromOutside() {
        checks.sentence(18, "sent to out, too; taken by OUTSIDE none, sent by it yes: the INSTANCE out .. EVENTS taken by out are done with their sent");
        ChartHouse x = Checks.begun("process a(1){start{next s;}state s{on go{send r to out;}}}");
        x.turn(0);
        Checks.outside(x, 0, "go", 0);
        fit(x, "out>a:go;", false);
        fit(x, "", false);
        x.turn(0);
        fit(x, "out>a:go;a>out:r;", true);
        fit(x, "out>a:go;", false);
        fit(x, "a>out:r;", false);
        fit(x, "a>out:r;out>a:go;", false);
        Checks.outside(x, 0, "go", 0);
        x.turn(0);
        fit(x, "out>a:go;a>out:r;out>a:go;a>out:r;", true);
        // The second go is sent ahead of the first r: on the LINE of out the taken r is not done then.
        x.begin();
        x.turn(0);
        Checks.outside(x, 0, "go", 0);
        Checks.outside(x, 0, "go", 0);
        x.run(9);
        fit(x, "out>a:go;a>out:r;out>a:go;a>out:r;", false);
    }

    private static void lostOnesLeftOut() {
        checks.sentence(18, "leaving out LOST ones");
        ChartHouse x = Checks.begun("process a(1){start{send m to parent;send m to b;make a;send k to child;next s;}state s{on k{}}}process b(0){start{}}");
        x.turn(0);
        checks.due("LOST", 2, () -> x.count(9));
        fit(x, "", false);
        fit(x, "a>a:k;", false);
        fit(x, "a>b:m;a>a:k;", false);
        ChartHouse y = Checks.begun("process a(1){start{send m to parent;send m to b;next s;}state s{}}process b(0){start{}}");
        y.turn(0);
        fit(y, "", true);
        fit(y, "a>b:m;", false);
        ChartHouse z = Checks.begun("process a(1){start{next s;}state s{on k{}}}");
        z.turn(0);
        for (int i = 0; i < 9; i++) {
            Checks.outside(z, 0, "k", 0);
        }
        z.run(9);
        fit(z, Checks.times(8, "out>a:k;"), true);
        fit(z, Checks.times(9, "out>a:k;"), false);
        fit(z, Checks.times(7, "out>a:k;"), false);
        ChartHouse w = Checks.begun("process a(1){start{" + Checks.times(9, "send m to b;") + "next s;}state s{}}process b(1){start{next s;}state s{on m{}}}");
        w.run(19);
        checks.due("one LOST at the full QUEUE", 1, () -> w.count(9));
        fit(w, Checks.times(8, "a>b:m;"), true);
        fit(w, Checks.times(9, "a>b:m;"), false);
    }

    private static void timersLeftOut() {
        checks.sentence(18, "leaving out .. TIMERS");
        ChartHouse x = Checks.begun("process a(1){start{set t 1;next s;}state s{on t{send n to b;}}}process b(1){start{next s;}state s{on n{}}}");
        x.run(2);
        x.time(1);
        x.run(9);
        fit(x, "a>b:n;", true);
        fit(x, "a>a:t;a>b:n;", false);
        ChartHouse y = Checks.begun("process a(1){start{send t to self;next s;}state s{on t{}}}");
        y.run(9);
        fit(y, "a>a:t;", true);
        fit(y, "", false);
    }

    private static void thrownAwayIsNotTaken() {
        checks.sentence(18, "of the TRACE'S sent and taken events (THROWN AWAY is not taken)");
        ChartHouse x = Checks.begun("process a(1){start{send m to self;next s;}state s{}}");
        x.run(9);
        checks.due("THROWN AWAY", 1, () -> x.count(10));
        fit(x, "a>a:m;", false);
        fit(x, "", false);
        ChartHouse y = Checks.begun("process a(1){start{send m to self;next s;}state s{any{}}}");
        y.run(9);
        fit(y, "a>a:m;", true);
        ChartHouse z = Checks.begun("process a(1){start{send m to self;next s;}state s{first m{}}}");
        z.run(9);
        fit(z, "a>a:m;", true);
    }

    private static void linesOfProcesses() {
        checks.sentence(18, "events of INSTANCES of PROCESSES .. on the LINE of its PROCESS");
        ChartHouse x = Checks.begun("process a(3){start{send m to b;stop;}}process b(1){start{next s;}state s{on m{}}}");
        x.run(99);
        fit(x, Checks.times(3, "a>b:m;"), true);
        fit(x, Checks.times(2, "a>b:m;"), false);
        checks.due("those that sent are gone", 1, () -> x.count(3));
        x.begin();
        fit(x, Checks.times(3, "a>b:m;"), false);
        fit(x, "", true);
        Checks.system(x, "process b(3){start{send m to a;stop;}}process a(1){start{next s;}state s{on m{}}}");
        x.run(99);
        fit(x, Checks.times(3, "a>b:m;"), false);
        fit(x, Checks.times(3, "b>a:m;"), true);
    }

    private static void traceThatLost() {
        checks.sentence(18, "the TRACE must have lost nothing, else not");
        ChartHouse x = Checks.begun("process a(1){start{next s;}state s{when(1){say 1;}}}");
        Checks.chart(x, "");
        x.run(400);
        checks.due("400 events", 400, () -> x.count(6));
        checks.due("it fits", 1, () -> x.fits() ? 1 : 0);
        x.run(1);
        checks.due("400 events", 400, () -> x.count(6));
        checks.due("one was lost", 0, () -> x.fits() ? 1 : 0);
        x.begin();
        checks.due("anew", 1, () -> x.fits() ? 1 : 0);
        x.run(1000);
        checks.due("lost again", 0, () -> x.fits() ? 1 : 0);
        Checks.system(x, "");
        checks.due("another SYSTEM", 1, () -> x.fits() ? 1 : 0);
    }

    private static void longestRun() {
        checks.sentence(18, "at most 40 messages (a RUN of 80 EVENTS)");
        ChartHouse x = Checks.begun("process a(1){let n=0;start{next s;}state s{when(n<40){n=n+1;send m to b;next t;}}state t{on k{next s;}}}"
            + "process b(1){start{next s;}state s{on m{send k to a;}}}");
        x.run(2);
        x.run(60);
        fit(x, Checks.times(20, "a>b:m;b>a:k;"), true);
        fit(x, Checks.times(19, "a>b:m;b>a:k;"), false);
        x.run(1);
        fit(x, Checks.times(20, "a>b:m;b>a:k;"), false);
    }

    // ---------------------------------------------------------------- promises 19 and 20

    private static void raced(String text, String want) {
        ChartHouse x = new ChartHouse();
        Checks.chart(x, text);
        StringBuilder found = new StringBuilder();
        int races = x.races();
        for (int i = 0; i < races; i++) {
            found.append(i > 0 ? " " : "").append(x.race(i, 0)).append('-').append(x.race(i, 1));
        }
        checks.same("RACES of " + text, want, found.toString());
    }

    private static void noRaces() {
        checks.sentence(19, "RACE: two EVENTS on one LINE, the first ahead, the other one taken (none)");
        raced("", "");
        raced("a>b:m;", "");
        raced("a>a:m;", "");
        raced("out>a:m;", "");
        raced("a>b:m;c>d:m;", "");
        raced("a>b:m;b>a:m;", "");
        raced("a>b:m;b>c:m;", "");
        raced("a>b:m;a>c:m;", "");
        checks.refused("no CHART", IllegalStateException.class, () -> new ChartHouse().races());
        checks.refused("a SYSTEM is none", IllegalStateException.class, () -> Checks.begun("").races());
    }

    private static void racesOfTaken() {
        checks.sentence(19, "such that the first is not BEFORE the other");
        raced("a>b:m;a>b:m;", "1-3");
        raced("a>b:m;c>b:m;", "1-3");
        raced("b>a:m;c>b:m;", "0-3");
        raced("a>out:m;b>out:m;", "1-3");
        raced("out>a:m;b>out:m;", "0-3");
        raced("a>a:m;b>a:m;", "0-3 1-3");
        raced("b>a:m;a>a:m;", "");
        raced("a>a:m;a>a:m;", "");
    }

    private static void whatFollows() {
        checks.sentence(19, "BEFORE: sent is ahead of its taken; on one LINE each is ahead of a sent one behind it; and what follows from these");
        raced("b>a:m;a>b:m;", "");
        raced("b>a:m;a>c:m;c>b:m;", "");
        raced("b>a:m;a>c:m;c>d:m;d>b:m;", "");
        raced("b>a:m;c>d:m;d>b:m;", "0-5");
        raced("a>b:m;a>c:m;c>b:m;", "1-5");
        raced("a>b:m;b>c:m;c>b:m;", "");
        raced("a>b:m;b>d:m;c>b:m;", "1-5 2-5");
        raced("a>b:m;c>b:m;b>d:m;d>b:m;", "1-3");
    }

    private static void manyRaces() {
        checks.sentence(19, "How many RACES the CHART has (of 40 messages)");
        ChartHouse x = new ChartHouse();
        Checks.chart(x, FORTY);
        checks.due("40 taken: 40 * 39 / 2", 780, () -> x.races());
        checks.due("the last, first side", 77, () -> x.race(779, 0));
        checks.due("the last, other side", 79, () -> x.race(779, 1));
        checks.refused("behind the last", IndexOutOfBoundsException.class, () -> x.race(780, 0));
        Checks.chart(x, Checks.times(40, "a>a:m;"));
        checks.due("40 to itself", 0, () -> x.races());
        Checks.chart(x, Checks.times(20, "b>a:m;c>b:m;"));
        // On the LINE of a 20 taken; on that of b the sent m with each taken behind it, and the taken with one another.
        checks.due("190, and 210 and 190", 590, () -> x.races());
        Checks.chart(x, Checks.times(20, "a>b:m;") + Checks.times(20, "b>a:m;"));
        checks.due("there and back", 380, () -> x.races());
    }

    private static void racesBehindEvent64() {
        checks.sentence(20, "2 times its message (from 0), 1 more if it is taken (up to 79)");
        String calm = Checks.times(19, "a>b:m;b>a:m;");
        raced(calm + "a>b:m;b>a:m;", "");
        raced(calm + "a>b:m;a>b:m;", "77-79");
        raced(calm + "c>d:m;e>d:m;", "77-79");
        raced(calm + "d>c:m;e>d:m;", "76-79");
        raced(Checks.times(15, "a>b:m;b>a:m;") + "c>d:m;" + Checks.times(4, "a>b:m;b>a:m;") + "e>d:m;", "61-79");
        raced(Checks.times(16, "a>b:m;b>a:m;") + "c>d:m;" + Checks.times(3, "a>b:m;b>a:m;") + "e>d:m;", "65-79");
        raced("d>c:m;" + Checks.times(19, "a>b:m;b>a:m;") + "c>d:m;", "");
        raced("d>e:m;" + Checks.times(15, "a>b:m;b>a:m;") + "a>b:m;c>d:m;", "0-65");
        raced("e>d:m;" + Checks.times(15, "a>b:m;b>a:m;") + "a>b:m;c>d:m;", "1-65");
        raced("d>e:m;" + Checks.times(15, "a>b:m;b>a:m;") + "a>b:m;c>f:m;f>d:m;", "0-67");
        raced("c>d:m;" + Checks.times(19, "a>b:m;b>a:m;") + "e>d:m;", "1-79");
        raced("d>c:m;" + Checks.times(18, "a>b:m;b>a:m;") + "c>a:m;a>b:m;b>d:m;", racesOfChain());
    }

    /** Of the chain above: nothing that a did is BEFORE what it takes from c; all else follows. */
    private static String racesOfChain() {
        StringBuilder text = new StringBuilder();
        for (int message = 1; message <= 36; message++) {
            // Messages 1, 3, .. are sent by a, messages 2, 4, .. are taken by it.
            int event = 2 * message + (message % 2 == 0 ? 1 : 0);
            text.append(message > 1 ? " " : "").append(event).append("-75");
        }
        return text.toString();
    }

    private static void raceRange() {
        checks.sentence(20, "RACE i .. there is none: IndexOutOfBoundsException");
        ChartHouse none = new ChartHouse();
        Checks.chart(none, "a>b:m;");
        checks.refused("0 of none", IndexOutOfBoundsException.class, () -> none.race(0, 0));
        ChartHouse x = new ChartHouse();
        Checks.chart(x, "a>b:m;c>b:m;d>b:m;");
        checks.due("0 of 3", 1, () -> x.race(0, 0));
        checks.due("2 of 3", 5, () -> x.race(2, 1));
        for (int i : new int[] {-1, 3, 4, LEAST, LARGEST}) {
            checks.refused(i + " of 3", IndexOutOfBoundsException.class, () -> x.race(i, 0));
            checks.refused(i + " of 3", IndexOutOfBoundsException.class, () -> x.race(i, 1));
        }
    }

    private static void raceSides() {
        checks.sentence(20, "side 0: the first EVENT, 1: the other (IllegalArgumentException: a number out of range)");
        ChartHouse x = new ChartHouse();
        Checks.chart(x, "b>a:m;c>b:m;");
        checks.due("side 0", 0, () -> x.race(0, 0));
        checks.due("side 1", 3, () -> x.race(0, 1));
        for (int side : new int[] {-1, 2, LEAST, LARGEST}) {
            checks.refused("side " + side, IllegalArgumentException.class, () -> x.race(0, side));
            checks.refused("side " + side + ", no RACE", IllegalArgumentException.class, () -> x.race(9, side));
            checks.refused("side " + side + ", no CHART", IllegalArgumentException.class, () -> new ChartHouse().race(0, side));
        }
    }

    private static void raceOrder() {
        checks.sentence(20, "RACES by the first EVENT, then by the other");
        raced("a>b:m;c>b:m;d>b:m;", "1-3 1-5 3-5");
        raced("a>b:m;c>d:m;e>d:m;f>b:m;", "1-7 3-5");
        raced("c>d:m;a>b:m;e>b:m;f>d:m;", "1-7 3-5");
        raced("b>x:m;a>b:m;c>b:m;", "0-3 0-5 3-5");
    }
}
