import java.util.NoSuchElementException;

/**
 * What is thrown, in which order, and that a call that throws changes nothing but THE TAPE: for each promise
 * whose call can be refused.
 */
public final class BoundaryRefusedTest {
    private static final Checks checks = new Checks();
    private static final Class<IllegalArgumentException> ARGUMENT = IllegalArgumentException.class;
    private static final Class<IllegalStateException> STATE = IllegalStateException.class;
    private static final Class<NoSuchElementException> ELEMENT = NoSuchElementException.class;
    private static final Class<UnsupportedOperationException> UNSUPPORTED = UnsupportedOperationException.class;
    private static final Class<IndexOutOfBoundsException> INDEX = IndexOutOfBoundsException.class;
    private static final String SYSTEM = "process abc(2){let v=7;start{set t 5;send m(v)to self;send n to parent;next s;}"
        + "state s{save m;when(v<9){v=v+1;say v;}}}process none(0){start{}}";

    private interface Calls {
        long answer(ChartHouse x);
    }

    public static void main(String[] args) {
        order();
        orderOfTheTapes();
        nothingChanges();
        nothingComesToBe();
        checks.finish();
    }

    /** A SYSTEM that has run, a CHART with a RACE, a walk that has a ROW, an OUT that is not empty. */
    private static ChartHouse full() {
        ChartHouse x = Checks.begun(SYSTEM);
        x.run(3);
        x.time(2);
        Checks.outside(x, 1, "strange", -5);
        Checks.chart(x, "abc>x:m;out>x:m;");
        x.walk(0, 0, 0);
        x.event(0, 3);
        return x;
    }

    private static ChartHouse bare() {
        return new ChartHouse();
    }

    private static void refused(int promise, String what, Class<? extends RuntimeException> want, ChartHouse x, Calls call) {
        checks.sentence(promise, "What is thrown, in this order: IllegalArgumentException: a number out of range; IllegalStateException: there is"
            + " no SYSTEM (CHART); NoSuchElementException: an INSTANCE that is not there; then as told");
        checks.refused(what, want, () -> call.answer(x));
    }

    private static void order() {
        refused(5, "no SYSTEM", STATE, bare(), x -> x.begin());
        refused(7, "no SYSTEM, no INSTANCE", STATE, bare(), x -> x.turn(-1));
        refused(7, "no INSTANCE", ELEMENT, full(), x -> x.turn(2));
        refused(8, "range, no SYSTEM", ARGUMENT, bare(), x -> x.run(1001));
        refused(8, "range, no SYSTEM", ARGUMENT, bare(), x -> x.run(-1));
        refused(8, "no SYSTEM", STATE, bare(), x -> x.run(1000));
        refused(8, "no SYSTEM", STATE, bare(), x -> x.run(0));
        refused(9, "range, no SYSTEM", ARGUMENT, bare(), x -> x.time(100001));
        refused(9, "range, no SYSTEM", ARGUMENT, bare(), x -> x.time(-1));
        refused(9, "no SYSTEM", STATE, bare(), x -> x.time(100000));
        refused(9, "no SYSTEM", STATE, bare(), x -> x.time(0));
        refused(10, "range, no SYSTEM, no INSTANCE", ARGUMENT, bare(), x -> x.look(-1, 7));
        refused(10, "no SYSTEM, no INSTANCE", STATE, bare(), x -> x.look(-1, 6));
        refused(10, "range, no INSTANCE", ARGUMENT, full(), x -> x.look(2, -1));
        refused(10, "no INSTANCE", ELEMENT, full(), x -> x.look(2, 0));
        refused(12, "range, no SYSTEM, no INSTANCE, no SIGNAL", ARGUMENT, bare(), x -> x.queue(-1, -1, 3));
        refused(12, "no SYSTEM, no INSTANCE, no SIGNAL", STATE, bare(), x -> x.queue(-1, -1, 2));
        refused(12, "range, no INSTANCE, no SIGNAL", ARGUMENT, full(), x -> x.queue(2, 9, -1));
        refused(12, "no INSTANCE, no SIGNAL", ELEMENT, full(), x -> x.queue(2, 9, 0));
        refused(12, "no SIGNAL", INDEX, full(), x -> x.queue(1, 9, 0));
        refused(12, "range, no SIGNAL", ARGUMENT, full(), x -> x.queue(1, 9, 3));
        refused(13, "range, no SYSTEM, no event", ARGUMENT, bare(), x -> x.event(-1, 4));
        refused(13, "no SYSTEM, no event", STATE, bare(), x -> x.event(-1, 3));
        refused(13, "range, no event", ARGUMENT, full(), x -> x.event(400, -1));
        refused(13, "no event", INDEX, full(), x -> x.event(400, 0));
        refused(15, "range, no SYSTEM", ARGUMENT, bare(), x -> x.walk(4, 0, 0));
        refused(15, "range of p, no SYSTEM", ARGUMENT, bare(), x -> x.walk(3, 6, 0));
        refused(15, "range of s, no SYSTEM", ARGUMENT, bare(), x -> x.walk(3, 0, 8));
        refused(15, "no SYSTEM", STATE, bare(), x -> x.walk(3, 5, 7));
        refused(15, "range of p", ARGUMENT, full(), x -> x.walk(3, 2, 0));
        refused(18, "neither", STATE, bare(), x -> x.fits() ? 1 : 0);
        refused(19, "no CHART", STATE, bare(), x -> x.races());
        refused(20, "range, no CHART, no RACE", ARGUMENT, bare(), x -> x.race(-1, 2));
        refused(20, "no CHART, no RACE", STATE, bare(), x -> x.race(-1, 1));
        refused(20, "range, no RACE", ARGUMENT, full(), x -> x.race(9, -1));
        refused(20, "no RACE", INDEX, full(), x -> x.race(9, 0));
        refused(14, "no byte of an empty OUT", INDEX, bare(), x -> x.word(0));
        refused(16, "no act", INDEX, bare(), x -> x.act(0));
        refused(21, "range", ARGUMENT, bare(), x -> x.count(14));
        refused(3, "range", ARGUMENT, bare(), x -> x.end(1));
    }

    private static void orderOfTheTapes() {
        refused(6, "no SYSTEM, no INSTANCE, no NAME", STATE, bare(), x -> Checks.outside(x, -1, "5", 0));
        refused(6, "no SYSTEM, no INSTANCE, an empty TAPE", STATE, bare(), x -> x.outside(-1, 0));
        refused(6, "no INSTANCE, no NAME", ELEMENT, full(), x -> Checks.outside(x, 2, "5", 0));
        refused(6, "no INSTANCE, an empty TAPE", ELEMENT, full(), x -> x.outside(-1, 0));
        refused(6, "no NAME", UNSUPPORTED, full(), x -> Checks.outside(x, 1, "5", 0));
        refused(6, "an empty TAPE", UNSUPPORTED, full(), x -> x.outside(1, 0));
        refused(11, "no SYSTEM, no INSTANCE, no VARIABLE", STATE, bare(), x -> Checks.variable(x, -1, "w"));
        refused(11, "no INSTANCE, no VARIABLE", ELEMENT, full(), x -> Checks.variable(x, 2, "w"));
        refused(11, "no INSTANCE, an empty TAPE", ELEMENT, full(), x -> x.variable(-1));
        refused(11, "no VARIABLE", UNSUPPORTED, full(), x -> Checks.variable(x, 1, "w"));
        refused(11, "an empty TAPE", UNSUPPORTED, full(), x -> x.variable(1));
    }

    /** All that can be asked of the object that full answers, OUT first, because questions for NAMES change it. */
    private static String all(ChartHouse x) {
        StringBuilder text = new StringBuilder();
        x.end(0);
        for (int what = 1; what <= 13; what++) {
            text.append(x.count(what)).append(' ');
        }
        text.append(Checks.out(x)).append(' ').append(Checks.row(x)).append(' ');
        for (int id = 0; id < 2; id++) {
            for (int what = 0; what < 7; what++) {
                text.append(x.look(id, what)).append(' ');
            }
            text.append(Checks.variable(x, id, "v")).append(' ').append(Checks.queue(x, id)).append(' ');
        }
        text.append(Checks.events(x, 0)).append(' ').append(x.races()).append(x.race(0, 0)).append(x.race(0, 1));
        // And what it goes on to do.
        return text.append(' ').append(x.run(1)).append(x.look(0, 1)).append(x.look(1, 1)).append(x.time(3)).toString();
    }

    private static void same(int promise, String what, Calls call) {
        checks.sentence(promise, "A call that throws changes nothing, but THE TAPE");
        ChartHouse x = full();
        String answer = Checks.answerOf(() -> call.answer(x));
        checks.same(what + " throws", "true", "" + answer.startsWith("throws."));
        checks.same(what + " changes nothing", all(full()), all(x));
    }

    private static void nothingChanges() {
        same(2, "feed", x -> {
            Checks.tape(x, Checks.times(2000, " "));
            return x.feed(-1, -1, -1, -1, -1);
        });
        same(3, "end", x -> x.end(1));
        same(6, "outside, no INSTANCE", x -> Checks.outside(x, 2, "m", 1));
        same(6, "outside, no NAME", x -> Checks.outside(x, 0, "process", 1));
        same(7, "turn", x -> x.turn(2));
        same(8, "run", x -> x.run(1001));
        same(9, "time", x -> x.time(100001));
        same(10, "look", x -> x.look(0, 7));
        same(11, "variable", x -> Checks.variable(x, 0, "w"));
        same(12, "queue, no SIGNAL", x -> x.queue(0, 8, 2));
        same(12, "queue, range", x -> x.queue(0, 0, 3));
        same(13, "event, none", x -> x.event(400, 3));
        same(13, "event, range", x -> x.event(0, 4));
        same(14, "word", x -> x.word(3));
        same(15, "walk, what", x -> x.walk(4, 0, 0));
        same(15, "walk, p", x -> x.walk(3, 2, 0));
        same(15, "walk, s", x -> x.walk(3, 0, 8));
        same(16, "act", x -> x.act(1000));
        same(20, "race, none", x -> x.race(1, 0));
        same(20, "race, side", x -> x.race(0, 2));
        same(21, "count", x -> x.count(14));
    }

    private static void nothingComesToBe() {
        ChartHouse x = bare();
        Calls[] calls = {y -> y.begin(), y -> Checks.outside(y, 0, "m", 0), y -> y.turn(0), y -> y.run(1), y -> y.time(1), y -> y.look(0, 0),
            y -> Checks.variable(y, 0, "v"), y -> y.queue(0, 0, 2), y -> y.event(0, 3), y -> y.word(0), y -> y.walk(0, 0, 0), y -> y.act(0),
            y -> y.fits() ? 1 : 0, y -> y.races(), y -> y.race(0, 0)};
        int[] promises = {5, 6, 7, 8, 9, 10, 11, 12, 13, 14, 15, 16, 18, 19, 20};
        for (int i = 0; i < calls.length; i++) {
            Calls call = calls[i];
            checks.sentence(promises[i], "A call that throws changes nothing, but THE TAPE (of a new object)");
            String answer = Checks.answerOf(() -> call.answer(x));
            checks.same("it throws", "true", "" + answer.startsWith("throws."));
            for (int what = 0; what <= 13; what++) {
                int asked = what;
                checks.due("count " + what, 0, () -> x.count(asked));
            }
        }
    }
}
