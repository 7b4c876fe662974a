/** Promise 21: count. */
public final class CountTest {
    private static final Checks checks = new Checks();

    public static void main(String[] args) {
        ChartHouse x = Checks.begun("process a(2){start{set t 5;set u 6;send m to self;send m to parent;next s;}state s{save k;}}"
            + "process b(0){start{}}");
        checks.refused("below", IllegalArgumentException.class, () -> x.count(-1));
        checks.refused("above", IllegalArgumentException.class, () -> x.count(14));
        checks.refused("least", IllegalArgumentException.class, () -> x.count(Integer.MIN_VALUE));
        counts(x, "begun", 0, 0, 2, 2, 2, 0, 2, 0, 0, 0, 0, 0, 0, 0);
        x.run(2);
        counts(x, "run", 0, 0, 2, 2, 2, 0, 8, 2, 4, 2, 0, 0, 0, 0);
        x.time(3);
        x.run(2);
        counts(x, "on", 0, 0, 2, 2, 2, 3, 10, 0, 4, 2, 2, 0, 0, 0);
        x.walk(0, 0, 0);
        counts(x, "walked", 0, 0, 2, 2, 2, 3, 10, 0, 4, 2, 2, 9, 6, 0);
        Checks.chart(x, "a>a:m;");
        x.event(0, 3);
        Checks.tape(x, "abc");
        counts(x, "charted", 3, 1, 2, 2, 2, 3, 10, 0, 4, 2, 2, 9, 6, 1);
        x.begin();
        counts(x, "begun anew", 3, 1, 2, 2, 2, 0, 2, 0, 0, 0, 0, 9, 6, 1);
        x.end(0);
        Checks.system(x, "process c(1){start{stop;}}");
        x.turn(0);
        counts(x, "another system", 0, 1, 1, 0, 1, 0, 2, 0, 0, 0, 0, 9, 6, 1);
        checks.finish();
    }

    private static void counts(ChartHouse x, String label, int... want) {
        for (int what = 0; what < want.length; what++) {
            int asked = what;
            checks.due(label + ", count " + what, want[what], () -> x.count(asked));
        }
    }
}
