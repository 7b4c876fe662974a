/** Promises 17 to 20: chart, fits, races, race. In a text, @ stands ahead of the byte that can't stand. */
public final class ChartTest {
    private static final Checks checks = new Checks();

    public static void main(String[] args) {
        reading();
        limits();
        whatWasStays();
        races();
        raceCalls();
        fits();
        fitsOutside();
        fitsLeavesOut();
        fitsManyOfOneProcess();
        fitsLostTrace();
        checks.finish();
    }

    private static void stands(int messages, String text) {
        checks.due("stands: " + text, messages, () -> Checks.chart(new ChartHouse(), text));
    }

    private static void fault(String marked) {
        int place = marked.indexOf('@');
        String text = marked.replace("@", "");
        checks.due("fault: " + marked, -1 - place, () -> Checks.chart(new ChartHouse(), text));
    }

    private static void reading() {
        stands(0, "");
        stands(0, " \n");
        stands(1, "a>b:m;");
        stands(1, "\na > b\n: m ;\n");
        stands(1, "a>a:a;");
        stands(2, "out>a:m;a>out:m;");
        fault("@>b:m;");
        fault("@5>b:m;");
        fault("@process>b:m;");
        fault("@sender>b:m;");
        fault("a@");
        fault("a @b:m;");
        fault("a@<b:m;");
        fault("a>@:m;");
        fault("a>@now:m;");
        fault("a>b@;");
        fault("a>b @m;");
        fault("a>b:@;");
        fault("a>b:@out;");
        fault("a>b:@to;");
        fault("a>b:@5;");
        fault("a>b:m@");
        fault("a>b:m  @");
        fault("a>b:m@,");
        fault("a>b:m;@;");
        fault("a>b:m;a>b:m;b@");
        fault("out>@out:m;");
        fault("a>b:m;out>@out:m;,");
        fault("a>b:@abcdefghijklm;");
        fault("a>b:m;@#");
    }

    private static void limits() {
        StringBuilder forty = new StringBuilder();
        for (int i = 0; i < 40; i++) {
            forty.append("a>b:m").append(i).append(';');
        }
        stands(40, forty.toString());
        fault(forty + "@a>b:m;");
        fault(forty + "  @,");
        String eight = "a>b:m;c>d:m;e>f:m;g>h:m;";
        stands(4, eight);
        stands(5, eight + "h>a:m;");
        fault(eight + "@i>a:m;");
        fault(eight + "a>@i:m;");
        fault(eight + "@out>a:m;");
        fault(eight + "a>@i:m;a>b:,");
        stands(5, "a>b:m;c>d:m;e>f:m;g>out:m;out>a:m;");
        fault("a>b:m;c>d:m;e>f:m;g>out:m;@i>a:m;");
    }

    private static void whatWasStays() {
        ChartHouse x = new ChartHouse();
        checks.due("two", 2, () -> Checks.chart(x, "a>b:m;c>b:n;"));
        checks.due("messages", 2, () -> x.count(13));
        checks.due("one race", 1, () -> x.races());
        checks.due("a fault", -15, () -> Checks.chart(x, "a>b:m;a>b:m;a>"));
        checks.due("messages", 2, () -> x.count(13));
        checks.due("one race", 1, () -> x.races());
        checks.due("its first", 1, () -> x.race(0, 0));
        checks.due("none", 0, () -> Checks.chart(x, ""));
        checks.due("messages", 0, () -> x.count(13));
        checks.due("no race", 0, () -> x.races());
    }

    private static void raced(String text, String want) {
        ChartHouse x = new ChartHouse();
        Checks.chart(x, text);
        StringBuilder found = new StringBuilder();
        for (int i = 0; i < x.races(); i++) {
            found.append(i > 0 ? " " : "").append(x.race(i, 0)).append('-').append(x.race(i, 1));
        }
        checks.same("races of " + text, want, found.toString());
    }

    private static void races() {
        raced("a>b:m;", "");
        raced("a>b:m;b>a:n;", "");
        // Two from one: sent in order, yet nothing ensures that they are taken so.
        raced("a>b:m;a>b:n;", "1-3");
        raced("a>b:m;c>b:n;", "1-3");
        // b sends ahead of what it takes, and c does not wait for it.
        raced("b>a:m;c>b:n;", "0-3");
        // c waits for b.
        raced("b>c:m;c>b:n;", "");
        // By way of another: what follows from others.
        raced("b>a:m;a>c:n;c>b:o;", "");
        raced("a>b:m;b>c:n;c>b:o;", "");
        raced("a>b:m;a>c:n;c>b:o;", "1-5");
        // To oneself: sent, then taken.
        raced("a>a:m;", "");
        raced("a>a:m;a>a:n;", "");
        // The line of out is a line too.
        raced("a>out:m;b>out:n;", "1-3");
        raced("out>a:m;out>a:n;", "1-3");
        raced("out>a:m;b>out:n;", "0-3");
        // By the first event, then by the other.
        raced("a>b:m;c>b:n;d>b:o;", "1-3 1-5 3-5");
        raced("a>b:m;c>d:n;e>d:o;f>b:p;", "1-7 3-5");
        raced("c>d:m;a>b:n;e>b:o;f>d:p;", "1-7 3-5");
        // A taken one ahead of a sent one is before it, a taken one ahead of a taken one is not.
        raced("a>b:m;b>d:n;c>b:o;", "1-5 2-5");
        StringBuilder forty = new StringBuilder();
        for (int i = 0; i < 40; i++) {
            forty.append("a>b:m;");
        }
        ChartHouse x = new ChartHouse();
        Checks.chart(x, forty.toString());
        checks.due("forty taken", 780, () -> x.races());
        checks.due("the last first", 77, () -> x.race(779, 0));
        checks.due("the last other", 79, () -> x.race(779, 1));
        StringBuilder selves = new StringBuilder();
        for (int i = 0; i < 40; i++) {
            selves.append("a>a:m;");
        }
        Checks.chart(x, selves.toString());
        checks.due("forty to oneself", 0, () -> x.races());
        StringBuilder turns = new StringBuilder();
        for (int i = 0; i < 20; i++) {
            turns.append("a>b:m;b>a:n;");
        }
        Checks.chart(x, turns.toString());
        checks.due("one by one", 0, () -> x.races());
        StringBuilder toward = new StringBuilder();
        for (int i = 0; i < 20; i++) {
            toward.append("a>b:m;");
        }
        for (int i = 0; i < 20; i++) {
            toward.append("b>a:n;");
        }
        Checks.chart(x, toward.toString());
        checks.due("there and back", 380, () -> x.races());
    }

    private static void raceCalls() {
        ChartHouse x = new ChartHouse();
        Checks.chart(x, "a>b:m;c>b:n;");
        checks.due("first", 1, () -> x.race(0, 0));
        checks.due("other", 3, () -> x.race(0, 1));
        checks.refused("side", IllegalArgumentException.class, () -> x.race(0, 2));
        checks.refused("side", IllegalArgumentException.class, () -> x.race(7, -1));
        checks.refused("none", IndexOutOfBoundsException.class, () -> x.race(1, 0));
        checks.refused("none", IndexOutOfBoundsException.class, () -> x.race(-1, 1));
        checks.refused("no system", IllegalStateException.class, () -> x.fits() ? 1 : 0);
        ChartHouse y = Checks.begun("");
        checks.refused("no chart", IllegalStateException.class, () -> y.fits() ? 1 : 0);
    }

    private static void fit(ChartHouse x, String text, boolean want) {
        checks.same("messages of " + text, "true", "" + (Checks.chart(x, text) >= 0));
        checks.due("fits: " + text, want ? 1 : 0, () -> x.fits() ? 1 : 0);
    }

    private static void fits() {
        ChartHouse x = Checks.begun("process a(1){start{send m to b;next s;}state s{on n{}}}"
            + "process b(1){start{next s;}state s{on m{send n to a;}}}");
        fit(x, "", true);
        fit(x, "a>b:m;", false);
        x.turn(0);
        fit(x, "a>b:m;", false);
        fit(x, "", false);
        x.turn(1);
        x.turn(1);
        fit(x, "a>b:m;b>a:n;", false);
        x.turn(0);
        fit(x, "a>b:m;b>a:n;", true);
        fit(x, "b>a:n;a>b:m;", false);
        fit(x, "a>b:m;", false);
        fit(x, "a>b:m;b>a:n;a>b:m;", false);
        fit(x, "a>b:m;b>a:m;", false);
        fit(x, "a>b:m;b>b:n;", false);
        fit(x, "a>a:m;b>a:n;", false);
        fit(x, "a>c:m;b>a:n;", false);
        fit(x, "c>b:m;b>a:n;", false);
        fit(x, "a>b:m;b>a:n;c>d:o;", false);
        // Lines, not the order of messages: two that do not meet may change places.
        ChartHouse y = Checks.begun("process a(1){start{send m to b;next s;}state s{}}process b(1){start{next s;}state s{on m{}}}"
            + "process c(1){start{send n to d;next s;}state s{}}process d(1){start{next s;}state s{on n{}}}");
        y.run(9);
        fit(y, "a>b:m;c>d:n;", true);
        fit(y, "c>d:n;a>b:m;", true);
        // To oneself.
        ChartHouse z = Checks.begun("process a(1){start{send m to self;send n to self;next s;}state s{on m{}on n{}}}");
        z.run(3);
        fit(z, "a>a:m;a>a:n;", false);
        ChartHouse w = Checks.begun("process a(1){start{send m to self;next s;}state s{on m{send n to self;}on n{}}}");
        w.run(3);
        fit(w, "a>a:m;a>a:n;", true);
    }

    private static void fitsOutside() {
        ChartHouse x = Checks.begun("process a(1){start{next s;}state s{on go{send r to out;}}}");
        x.turn(0);
        Checks.outside(x, 0, "go", 0);
        fit(x, "out>a:go;", false);
        x.turn(0);
        fit(x, "out>a:go;a>out:r;", true);
        fit(x, "out>a:go;", false);
        fit(x, "a>out:r;out>a:go;", false);
        fit(x, "out>a:go;b>out:r;", false);
        Checks.outside(x, 0, "go", 0);
        x.turn(0);
        fit(x, "out>a:go;a>out:r;out>a:go;a>out:r;", true);
        // Two from outside ahead of the answers: on the line of out they come one behind the other.
        x.begin();
        x.turn(0);
        Checks.outside(x, 0, "go", 0);
        Checks.outside(x, 0, "go", 0);
        x.run(2);
        fit(x, "out>a:go;out>a:go;a>out:r;a>out:r;", false);
        fit(x, "out>a:go;a>out:r;out>a:go;a>out:r;", false);
        ChartHouse y = Checks.begun("process a(1){start{next s;}state s{on go{}on stay{send r to out;send r to out;}}}");
        y.turn(0);
        Checks.outside(y, 0, "go", 0);
        Checks.outside(y, 0, "go", 0);
        y.run(2);
        fit(y, "out>a:go;out>a:go;", true);
        Checks.outside(y, 0, "stay", 0);
        y.run(1);
        fit(y, "out>a:go;out>a:go;out>a:stay;a>out:r;a>out:r;", true);
    }

    private static void fitsLeavesOut() {
        // Timers, LOST ones; what is thrown away is sent, yet never taken.
        ChartHouse x = Checks.begun("process a(1){start{set t 1;send m to parent;send m to c;next s;}state s{on t{send n to b;}}}"
            + "process b(1){start{next s;}state s{on n{}}}process c(0){start{}}");
        x.run(2);
        x.time(1);
        x.run(5);
        fit(x, "a>b:n;", true);
        fit(x, "a>a:t;a>b:n;", false);
        ChartHouse y = Checks.begun("process a(1){start{send m to b;next s;}state s{}}process b(1){start{next s;}state s{}}");
        y.run(5);
        checks.due("thrown", 1, () -> y.count(10));
        fit(y, "a>b:m;", false);
        fit(y, "", false);
        // What oneself sends is no timer's, whatever its name.
        ChartHouse z = Checks.begun("process a(1){start{set t 9;send t to self;next s;}state s{on t{}}}");
        z.run(2);
        fit(z, "a>a:t;", true);
        z.time(9);
        z.run(1);
        fit(z, "a>a:t;", true);
        // LOST at a full queue.
        ChartHouse u = Checks.begun("process a(1){let n=0;start{next s;}state s{when(n<9){n=n+1;send m to b;}}}"
            + "process b(1){start{next s;}state s{on m{}}}");
        for (int i = 0; i < 10; i++) {
            u.turn(0);
        }
        u.run(20);
        checks.due("lost", 1, () -> u.count(9));
        fit(u, "a>b:m;a>b:m;a>b:m;a>b:m;a>b:m;a>b:m;a>b:m;a>b:m;", true);
        fit(u, "a>b:m;a>b:m;a>b:m;a>b:m;a>b:m;a>b:m;a>b:m;a>b:m;a>b:m;", false);
        // From outside LOST.
        ChartHouse w = Checks.begun("process a(1){start{next s;}state s{save k;on go{}}}");
        w.turn(0);
        for (int i = 0; i < 9; i++) {
            Checks.outside(w, 0, "k", 0);
        }
        checks.due("lost", 1, () -> w.count(9));
        fit(w, "", false);
        ChartHouse v = Checks.begun("process a(1){start{next s;}state s{on k{}}}");
        v.turn(0);
        for (int i = 0; i < 9; i++) {
            Checks.outside(v, 0, "k", 0);
        }
        v.run(9);
        fit(v, "out>a:k;out>a:k;out>a:k;out>a:k;out>a:k;out>a:k;out>a:k;out>a:k;", true);
        fit(v, "out>a:k;out>a:k;out>a:k;out>a:k;out>a:k;out>a:k;out>a:k;out>a:k;out>a:k;", false);
    }

    private static void fitsManyOfOneProcess() {
        // Instances of one process share its line; where one is gone, its events stay.
        ChartHouse x = Checks.begun("process a(2){start{send m to b;stop;}}process b(1){start{next s;}state s{on m{}}}");
        x.turn(2);
        x.turn(0);
        x.turn(1);
        x.run(2);
        fit(x, "a>b:m;a>b:m;", true);
        fit(x, "a>b:m;", false);
        x.begin();
        fit(x, "a>b:m;a>b:m;", false);
        fit(x, "", true);
        // A name that only the chart has, or only the system.
        ChartHouse y = Checks.begun("process a(1){start{send abcdefghijkl to a;next s;}state s{on abcdefghijkl{}}}");
        y.run(2);
        fit(y, "a>a:abcdefghijkl;", true);
        fit(y, "a>a:abcdefghijk;", false);
        fit(y, "A>A:abcdefghijkl;", false);
    }

    private static void fitsLostTrace() {
        ChartHouse x = Checks.begun("process a(1){let n=0;start{next s;}state s{when(n<500){say n;n=n+1;}}}");
        x.run(400);
        fit(x, "", true);
        x.run(1);
        fit(x, "", false);
        x.begin();
        fit(x, "", true);
    }
}
