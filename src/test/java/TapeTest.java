import java.util.NoSuchElementException;

/** Promises 1, 2, 3, 14 and what a new object answers. */
public final class TapeTest {
    private static final Checks checks = new Checks();

    public static void main(String[] args) {
        newObject();
        feed();
        end();
        word();
        emptied();
        checks.finish();
    }

    private static void newObject() {
        ChartHouse x = new ChartHouse();
        for (int what = 0; what <= 13; what++) {
            int asked = what;
            checks.due("count of a new object " + what, 0, () -> x.count(asked));
        }
        checks.refused("begin", IllegalStateException.class, () -> x.begin());
        checks.refused("outside", IllegalStateException.class, () -> x.outside(0, 0));
        checks.refused("turn", IllegalStateException.class, () -> x.turn(0));
        checks.refused("run", IllegalStateException.class, () -> x.run(1));
        checks.refused("time", IllegalStateException.class, () -> x.time(1));
        checks.refused("look", IllegalStateException.class, () -> x.look(0, 0));
        checks.refused("variable", IllegalStateException.class, () -> x.variable(0));
        checks.refused("queue", IllegalStateException.class, () -> x.queue(0, 0, 0));
        checks.refused("event", IllegalStateException.class, () -> x.event(0, 0));
        checks.refused("word", IndexOutOfBoundsException.class, () -> x.word(0));
        checks.refused("walk", IllegalStateException.class, () -> x.walk(0, 0, 0));
        checks.refused("walk 3", IllegalStateException.class, () -> x.walk(3, 5, 7));
        checks.refused("walk p", IllegalArgumentException.class, () -> x.walk(3, 6, 7));
        checks.refused("act", IndexOutOfBoundsException.class, () -> x.act(0));
        checks.refused("fits", IllegalStateException.class, () -> x.fits() ? 1 : 0);
        checks.refused("races", IllegalStateException.class, () -> x.races());
        checks.refused("race", IllegalStateException.class, () -> x.race(0, 0));
        checks.refused("run out of range", IllegalArgumentException.class, () -> x.run(-1));
        checks.refused("time out of range", IllegalArgumentException.class, () -> x.time(100001));
        checks.refused("look out of range", IllegalArgumentException.class, () -> x.look(0, 7));
        checks.refused("queue out of range", IllegalArgumentException.class, () -> x.queue(0, 0, 3));
        checks.refused("event out of range", IllegalArgumentException.class, () -> x.event(0, 4));
        checks.refused("race out of range", IllegalArgumentException.class, () -> x.race(0, 2));
    }

    private static void feed() {
        ChartHouse x = new ChartHouse();
        for (int i = 1; i <= 100; i++) {
            int length = 20 * i;
            checks.due("feed " + i, length, () -> x.feed(0, 0, 0, 0, 0));
        }
        checks.refused("feed 101", IndexOutOfBoundsException.class, () -> x.feed(0, 0, 0, 0, 0));
        checks.due("the tape stays", 2000, () -> x.count(0));
        checks.due("end", 1981, () -> x.end(1981));
        checks.refused("no room", IndexOutOfBoundsException.class, () -> x.feed(0, 0, 0, 0, 0));
        checks.due("end", 1980, () -> x.end(1980));
        checks.due("room", 2000, () -> x.feed(0, 0, 0, 0, 0));

        ChartHouse y = Checks.begun("process abcdefghijkl(1){start{next s;}state s{}}");
        // The highest byte of each int comes first: a NAME of five parts.
        y.feed(0x61620A20, 0x20202020, 0x20202020, 0x20202020, 0x20202020);
        y.outside(0, 1);
        checks.same("bytes in order", "ab(1)-1", Checks.queue(y, 0));
        y.feed(0x41424344, 0x45464748, 0x494A4B4C, 0x20202020, 0x20202020);
        y.outside(0, 2);
        checks.same("ints in order", "ab(1)-1 ABCDEFGHIJKL(2)-1", Checks.queue(y, 0));
    }

    private static void end() {
        ChartHouse x = new ChartHouse();
        checks.due("end of nothing", 0, () -> x.end(0));
        checks.refused("end beyond", IllegalArgumentException.class, () -> x.end(1));
        x.feed(1, 2, 3, 4, 5);
        checks.refused("end below", IllegalArgumentException.class, () -> x.end(-1));
        checks.refused("end above", IllegalArgumentException.class, () -> x.end(21));
        checks.due("end whole", 20, () -> x.end(20));
        checks.due("end part", 7, () -> x.end(7));
        checks.due("length", 7, () -> x.count(0));
        checks.due("feed behind", 27, () -> x.feed(1, 2, 3, 4, 5));
        // What was cut off is not read, be it behind a name, a number or a sign.
        ChartHouse y = Checks.begun("process a(1){let ab=3;start{next s;}state s{}}");
        Checks.tape(y, "abcdef");
        y.end(2);
        checks.due("a name that was cut", 3, () -> y.variable(0));
        Checks.tape(y, "process b(1){start{}}process c(1){start{}}");
        y.end(21);
        checks.due("a system that was cut", 1, () -> y.system());
        Checks.tape(y, "process b(12){start{}}");
        y.end(11);
        checks.due("a number that was cut", -12, () -> y.system());
        Checks.tape(y, "process b(1){start{say 1==1;}}");
        y.end(25);
        checks.due("a sign that was cut", -25, () -> y.system());
    }

    private static void word() {
        ChartHouse x = Checks.begun("process abcdefghijkl(1){start{stop;}}");
        checks.due("length of the name", 12, () -> x.event(0, 3));
        checks.due("OUT", 12, () -> x.count(1));
        checks.due("word 0", 0x6162636465666768L, () -> x.word(0));
        checks.due("word 4", 0x65666768696A6B6CL, () -> x.word(4));
        checks.due("word 5", 0x666768696A6B6C00L, () -> x.word(5));
        checks.due("word 11", 0x6C00000000000000L, () -> x.word(11));
        checks.refused("word 12", IndexOutOfBoundsException.class, () -> x.word(12));
        checks.refused("word -1", IndexOutOfBoundsException.class, () -> x.word(-1));
        checks.refused("word most", IndexOutOfBoundsException.class, () -> x.word(Integer.MAX_VALUE));
        x.turn(0);
        checks.due("stopped has no name", 0, () -> x.event(1, 3));
        checks.due("OUT is empty", 0, () -> x.count(1));
        checks.refused("word of nothing", IndexOutOfBoundsException.class, () -> x.word(0));
        x.event(0, 3);
        checks.due("OUT stays with other questions", 4, () -> x.event(0, 0));
        checks.due("OUT stays", 12, () -> x.count(1));
        Checks.system(x, "process b(1){start{stop;}}");
        checks.due("OUT stays over a system", 0x6162636465666768L, () -> x.word(0));
    }

    private static void emptied() {
        ChartHouse x = new ChartHouse();
        Checks.tape(x, "process");
        checks.due("fault", -8, () -> x.system());
        checks.due("system leaves no tape", 0, () -> x.count(0));
        Checks.tape(x, "a");
        checks.due("fault", -2, () -> x.chart());
        checks.due("chart leaves no tape", 0, () -> x.count(0));
        Checks.tape(x, "a");
        checks.refused("outside", IllegalStateException.class, () -> x.outside(0, 0));
        checks.due("outside leaves no tape", 0, () -> x.count(0));
        Checks.tape(x, "a");
        checks.refused("variable", IllegalStateException.class, () -> x.variable(0));
        checks.due("variable leaves no tape", 0, () -> x.count(0));
        Checks.system(x, "process a(1){start{stop;}}");
        Checks.tape(x, "a");
        checks.refused("outside", NoSuchElementException.class, () -> x.outside(1, 0));
        checks.due("outside leaves no tape", 0, () -> x.count(0));
        Checks.tape(x, "a");
        x.begin();
        x.run(3);
        x.time(3);
        checks.due("others leave the tape", 1, () -> x.count(0));
    }
}
