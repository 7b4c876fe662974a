/** Promises 15 and 16: walk and act. */
public final class WalkTest {
    private static final Checks checks = new Checks();

    public static void main(String[] args) {
        wrongInputs();
        stuck();
        losing();
        throwing();
        beingIn();
        knownStates();
        timeInWalks();
        tooMany();
        asBefore();
        rowsCanBeDone();
        checks.finish();
    }

    private static void walks(ChartHouse x, String label, String want, int what, int p, int s) {
        int answer = x.walk(what, p, s);
        checks.same(label, want, answer + ": " + Checks.row(x) + " of " + x.count(11));
    }

    private static void wrongInputs() {
        ChartHouse x = Checks.begun("process a(1){start{next s;}state s{}}process b(1){start{next s;}state s{}}");
        checks.refused("what", IllegalArgumentException.class, () -> x.walk(-1, 0, 0));
        checks.refused("what", IllegalArgumentException.class, () -> x.walk(4, 0, 0));
        checks.refused("p", IllegalArgumentException.class, () -> x.walk(3, 2, 0));
        checks.refused("p", IllegalArgumentException.class, () -> x.walk(3, -1, 0));
        checks.refused("s", IllegalArgumentException.class, () -> x.walk(3, 0, 8));
        checks.refused("s", IllegalArgumentException.class, () -> x.walk(3, 0, -1));
        checks.due("p and s do not matter else", 2, () -> x.walk(0, 99, -99));
        checks.due("a state that is not told", -1, () -> x.walk(3, 0, 7));
        checks.refused("no act", IndexOutOfBoundsException.class, () -> x.act(0));
        x.walk(0, 0, 0);
        checks.due("act 0", 0, () -> x.act(0));
        checks.due("act 1", 1, () -> x.act(1));
        checks.refused("act 2", IndexOutOfBoundsException.class, () -> x.act(2));
        checks.refused("act -1", IndexOutOfBoundsException.class, () -> x.act(-1));
        checks.refused("what", IllegalArgumentException.class, () -> x.walk(4, 0, 0));
        checks.due("the row stays", 2, () -> x.count(12));
        ChartHouse y = Checks.begun("");
        checks.refused("no p", IllegalArgumentException.class, () -> y.walk(3, 0, 0));
        walks(y, "nothing is there: STUCK", "0:  of 1", 0, 0, 0);
        walks(y, "nothing is lost", "-1:  of 1", 1, 0, 0);
    }

    private static void stuck() {
        ChartHouse x = Checks.begun("process a(2){start{next s;}state s{}}");
        walks(x, "both start", "2: 0 1 of 4", 0, 0, 0);
        x.run(2);
        walks(x, "the first is it", "0:  of 1", 0, 0, 0);
        ChartHouse y = Checks.begun("process a(1){start{next s;}state s{when(1){}}}");
        walks(y, "never", "-1:  of 2", 0, 0, 0);
        // A deadlock only if the second comes between.
        ChartHouse z = Checks.begun("process f(2){let g=0;start{send take1 to l;next w;}state w{on ok{send take1 to r;next v;}}"
            + "state v{on ok{send give to l;send give to r;stop;}}}"
            + "process l(1){let h=0;start{next s;}state s{on take1{send ok to sender;next t;}}state t{save take1;on give{next s;}}}"
            + "process r(1){let h=0;start{next s;}state s{on take1{send ok to sender;next t;}}state t{save take1;on give{next s;}}}");
        int answer = z.walk(0, 0, 0);
        checks.same("it ends", "true", "" + (answer > 0));
    }

    private static void losing() {
        ChartHouse x = Checks.begun("process a(1){let n=0;start{next s;}state s{when(n<2){n=n+1;}when(n==2){send m to b;n=3;}}}"
            + "process b(0){start{}}");
        walks(x, "the act that loses", "4: 0 0 0 0 of 5", 1, 0, 0);
        ChartHouse y = Checks.begun("process a(1){start{make b;send m to child;next s;}state s{on n{}}}"
            + "process b(0){start{send n to parent;next s;}state s{on m{stop;}}}");
        walks(y, "never", "-1:  of 6", 1, 0, 0);
        ChartHouse z = Checks.begun("process a(1){start{set p 1;set q 2;set r 3;set t 4;set u 5;next s;}state s{}}");
        walks(z, "a timer", "1: 0 of 2", 1, 0, 0);
        ChartHouse w = Checks.begun("process a(3){start{make a;next s;}state s{}}");
        walks(w, "a make", "2: 0 1 of 5", 1, 0, 0);
    }

    private static void throwing() {
        ChartHouse x = Checks.begun("process a(1){start{send m to b;next s;}state s{}}"
            + "process b(1){start{next s;}state s{on go{}}}");
        walks(x, "a signal that b does not know", "3: 0 1 1 of 5", 2, 0, 0);
        walks(x, "nothing is lost", "-1:  of 5", 1, 0, 0);
    }

    private static void beingIn() {
        ChartHouse x = Checks.begun("process a(1){let n=0;start{next p;}state p{when(n<3){n=n+1;}when(1){next q;}}state q{on k{next r;}}"
            + "state r{}}process b(1){start{send k to a;next s;}state s{}}");
        walks(x, "state p", "1: 0 of 2", 3, 0, 0);
        walks(x, "b first", "1: 1 of 3", 3, 1, 0);
        // b sends k early; a has to throw nothing away: k is taken in q alone.
        int answer = x.walk(3, 0, 2);
        checks.same("state r", "7: 0 0 0 0 0 1 0", answer + ": " + Checks.row(x));
        x.run(1);
        walks(x, "there already", "0:  of 1", 3, 0, 0);
    }

    private static void knownStates() {
        // The act that throws away leads back to the state it was done in.
        ChartHouse x = Checks.begun("process a(1){start{next s;}state s{when(1){send m to self;next t;}}state t{on k{}}}");
        x.run(2);
        x.run(1);
        walks(x, "nothing more can be done", "0:  of 1", 0, 0, 0);
        ChartHouse y = Checks.begun("process a(1){start{next s;}state s{when(1){send m to parent;}}}");
        x.run(1);
        y.run(1);
        walks(y, "LOST into the first state", "1: 0 of 1", 1, 0, 0);
        ChartHouse z = Checks.begun("process a(1){start{next s;}state s{when(1){send m to self;}on k{}}}");
        z.run(2);
        z.run(1);
        z.begin();
        z.run(1);
        walks(z, "two states", "2: 0 0 of 3", 2, 0, 0);
        // STUCK and BEING IN look at new states alone; a state is told apart by sender, child, values, ids.
        ChartHouse w = Checks.begun("process a(1){let v=0;start{next s;}state s{on m(v){next s;}}}");
        w.run(1);
        Checks.outside(w, 0, "m", 0);
        w.run(1);
        Checks.outside(w, 0, "m", 0);
        walks(w, "the queue tells apart", "-1:  of 2", 1, 0, 0);
    }

    private static void timeInWalks() {
        ChartHouse x = Checks.begun("process a(1){start{set t 7;set u 9;next s;}state s{on t{say now;next r;}}state r{on u{say now;next q;}}"
            + "state q{}}");
        walks(x, "turns ahead of time", "5: 0 -1 0 -1 0 of 6", 3, 0, 2);
        x.run(1);
        x.time(3);
        walks(x, "from now on", "4: -1 0 -1 0 of 5", 3, 0, 2);
        checks.due("now stays", 3, () -> x.count(5));
        // How long timers have to go is the same each time round: two states and no more.
        ChartHouse y = Checks.begun("process a(1){start{next s;}state s{on t{set t 5;}on go{set t 5;}}}");
        y.run(1);
        Checks.outside(y, 0, "go", 0);
        y.run(1);
        y.time(5);
        y.run(1);
        walks(y, "round and round", "-1:  of 2", 0, 0, 0);
        // A timer that is due at once waits for TIME too.
        ChartHouse z = Checks.begun("process a(1){let n=0;start{set t 0;next s;}state s{when(n<1){n=1;}on t{next r;}}state r{}}");
        walks(z, "due at once", "4: 0 0 -1 0 of 5", 3, 0, 1);
        ChartHouse w = Checks.begun("process a(1){start{set t 5;set u 5;set v 6;next s;}state s{save t;save u;save v;}}");
        walks(w, "all that are due", "3: 0 -1 -1 of 4", 0, 0, 0);
        ChartHouse v = Checks.begun("process a(1){let n=0;start{next s;}state s{when(n<8){n=n+1;send m to self;}save m;when(n==8){n=9;set t 1;}}}");
        walks(v, "TIME loses", "11: 0 0 0 0 0 0 0 0 0 0 -1 of 12", 1, 0, 0);
    }

    private static String counting(int most) {
        return "process a(1){let n=0;start{next s;}state s{when(n<" + most + "){n=n+1;}when(n==" + most + "){send m to parent;n=n+1;}}}";
    }

    private static String making(int most) {
        return "process m(1){let n=0;start{next s;}state s{when(n<" + most + "){n=n+1;make w;next t;}}state t{on ready{next s;}}}"
            + "process w(0){start{send ready to parent;stop;}}";
    }

    private static void tooMany() {
        ChartHouse x = Checks.begun(counting(997));
        checks.due("1000 states", 999, () -> x.walk(0, 0, 0));
        checks.due("count", 1000, () -> x.count(11));
        checks.due("acts", 999, () -> x.count(12));
        checks.due("the last", 0, () -> x.act(998));
        checks.refused("behind the last", IndexOutOfBoundsException.class, () -> x.act(999));
        checks.due("the last loses", 999, () -> x.walk(1, 0, 0));
        checks.due("none is thrown away", -1, () -> x.walk(2, 0, 0));
        checks.due("count", 1000, () -> x.count(11));
        ChartHouse y = Checks.begun(counting(998));
        checks.due("1001 states", -2, () -> y.walk(0, 0, 0));
        checks.due("count", 1000, () -> y.count(11));
        checks.due("acts", 0, () -> y.count(12));
        checks.due("1001 states", -2, () -> y.walk(2, 0, 0));
        checks.due("found ahead of it", 1, () -> y.walk(3, 0, 0));
        checks.due("count", 2, () -> y.count(11));
        y.run(1);
        checks.due("from here there are 1000", 999, () -> y.walk(1, 0, 0));
        ChartHouse z = Checks.begun(making(60));
        checks.due("id 60 is given", 181, () -> z.walk(0, 0, 0));
        ChartHouse w = Checks.begun(making(61));
        checks.due("id 61 would be given", -2, () -> w.walk(0, 0, 0));
        checks.due("count", 1000, () -> w.count(11));
        checks.due("acts", 0, () -> w.count(12));
        checks.due("all are made", 184, () -> w.run(1000));
        walks(w, "ids above 60 that were given before", "0:  of 1", 0, 0, 0);
    }

    private static String all(ChartHouse x, int ids) {
        StringBuilder text = new StringBuilder();
        for (int what = 0; what <= 10; what++) {
            text.append(x.count(what)).append(' ');
        }
        for (int id = 0; id < ids; id++) {
            int asked = id;
            for (int what = 0; what < 7; what++) {
                int about = what;
                text.append(Checks.answerOf(() -> x.look(asked, about))).append(' ');
            }
        }
        return text.append(x.count(13)).toString();
    }

    private static final String MANY = "process a(2){let v=0;start{set t 3;send m(self)to b;next s;}"
        + "state s{on t{send m(v)to b;v=v+1;if(v<3){set t 2;}}on k(v){make b;}}}"
        + "process b(1){let w=0;start{next s;}state s{on m(w){if(w==2){send k(w)to sender;}else{send x to self;}}save y;}}";

    private static void asBefore() {
        ChartHouse x = Checks.begun(MANY);
        x.run(4);
        x.time(1);
        Checks.outside(x, 0, "strange", 5);
        String events = Checks.events(x, 0);
        String before = all(x, 4);
        for (int what = 0; what < 4; what++) {
            x.walk(what, 1, 5);
            checks.same("all is as before", before, all(x, 4));
        }
        checks.same("the trace too", events, Checks.events(x, 0));
        checks.same("the queue too", "strange(5)-1", Checks.queue(x, 0));
        // The next run goes on behind the last one.
        ChartHouse y = Checks.begun("process a(3){start{next s;}state s{}}");
        y.run(1);
        y.walk(0, 0, 0);
        y.run(1);
        checks.due("the second", 0, () -> y.look(1, 1));
        checks.due("not the third", -1, () -> y.look(2, 1));
        y.walk(0, 0, 0);
        Checks.system(y, "process b(1){start{}}");
        checks.due("the row stays over a system", 1, () -> y.count(12));
        checks.due("act", 2, () -> y.act(0));
    }

    /** Does the row act by act, TIME as far as the next timer that is due: found by trying each. */
    private static void rowsCanBeDone() {
        ChartHouse x = Checks.begun(MANY);
        int answer = x.walk(2, 0, 0);
        checks.same("found", "true", "" + (answer > 0));
        int[] row = new int[answer];
        for (int i = 0; i < answer; i++) {
            row[i] = x.act(i);
        }
        for (int i = 0; i < answer; i++) {
            checks.due("nothing is thrown away yet", 0, () -> x.count(10));
            int id = row[i];
            if (id >= 0) {
                checks.same("it can do something", "true", "" + (x.turn(id) > 0));
            } else {
                int came = 0;
                for (int n = 0; n < 10 && came == 0; n++) {
                    came = x.time(n == 0 ? 0 : 1);
                }
                checks.same("a timer comes due", "true", "" + (came > 0));
            }
        }
        checks.due("one is thrown away", 1, () -> x.count(10));
    }
}
