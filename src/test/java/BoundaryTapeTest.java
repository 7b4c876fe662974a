import java.util.NoSuchElementException;

/** The boundary cases of a new object, THE TAPE and OUT: promises 1, 2, 3, 14 and the calls that read THE TAPE. */
public final class BoundaryTapeTest {
    private static final Checks checks = new Checks();
    private static final int BLANKS = 0x20202020;
    private static final String ONE = "process a(1){let v=7;start{next s;}state s{save m;}}";

    public static void main(String[] args) {
        nothingAtFirst();
        emptyIsNotNone();
        feedUpToFull();
        feedThatIsRefused();
        feedPlaces();
        endRange();
        endOfFull();
        endKeepsTheFirst();
        readingEmpties();
        readingEmptiesWhenRefused();
        othersLeaveTheTape();
        wordRange();
        wordZeros();
        wordOfShorterOut();
        lastOf512Calls();
        checks.finish();
    }

    private static void nothingAtFirst() {
        checks.sentence(1, "No SYSTEM, no CHART");
        checks.refused("begin", IllegalStateException.class, () -> new ChartHouse().begin());
        checks.refused("races", IllegalStateException.class, () -> new ChartHouse().races());
        checks.refused("fits", IllegalStateException.class, () -> new ChartHouse().fits() ? 1 : 0);
        checks.refused("word", IndexOutOfBoundsException.class, () -> new ChartHouse().word(0));
        checks.refused("act", IndexOutOfBoundsException.class, () -> new ChartHouse().act(0));
        ChartHouse x = new ChartHouse();
        for (int what = 0; what <= 13; what++) {
            int asked = what;
            checks.due("count " + what, 0, () -> x.count(asked));
        }
        ChartHouse y = Checks.begun(ONE);
        checks.refused("a SYSTEM is no CHART", IllegalStateException.class, () -> y.races());
        checks.refused("fits needs both", IllegalStateException.class, () -> y.fits() ? 1 : 0);
        ChartHouse z = new ChartHouse();
        Checks.chart(z, "a>b:m;");
        checks.refused("a CHART is no SYSTEM", IllegalStateException.class, () -> z.begin());
        checks.refused("fits needs both", IllegalStateException.class, () -> z.fits() ? 1 : 0);
        ChartHouse w = new ChartHouse();
        Checks.system(w, "process");
        Checks.chart(w, "a>");
        checks.refused("a FAULT makes no SYSTEM", IllegalStateException.class, () -> w.begin());
        checks.refused("what can't stand makes no CHART", IllegalStateException.class, () -> w.races());
    }

    private static void emptyIsNotNone() {
        checks.sentence(1, "No SYSTEM, no CHART (an empty one is one)");
        ChartHouse x = new ChartHouse();
        checks.due("an empty SYSTEM", 0, () -> x.system());
        checks.due("it begins", 0, () -> x.begin());
        checks.due("it runs", 0, () -> x.run(1000));
        checks.due("its time goes on", 0, () -> x.time(1));
        checks.refused("no INSTANCE", NoSuchElementException.class, () -> x.turn(0));
        checks.refused("no event", IndexOutOfBoundsException.class, () -> x.event(0, 0));
        checks.due("an empty CHART", 0, () -> x.chart());
        checks.due("it has no RACES", 0, () -> x.races());
        checks.refused("not one", IndexOutOfBoundsException.class, () -> x.race(0, 0));
        checks.due("the empty TRACE is its RUN", 1, () -> x.fits() ? 1 : 0);
    }

    private static void feedUpToFull() {
        checks.sentence(2, "it would have more than 2000: IndexOutOfBoundsException");
        ChartHouse x = new ChartHouse();
        for (int i = 1; i <= 100; i++) {
            int length = 20 * i;
            checks.due("feed " + i, length, () -> x.feed(BLANKS, BLANKS, BLANKS, BLANKS, BLANKS));
        }
        checks.refused("2000 and 20", IndexOutOfBoundsException.class, () -> x.feed(0, 0, 0, 0, 0));
        int[] tooLong = {1999, 1990, 1982, 1981};
        for (int length : tooLong) {
            x.end(length);
            checks.refused(length + " and 20", IndexOutOfBoundsException.class, () -> x.feed(0, 0, 0, 0, 0));
            checks.due("it keeps its length", length, () -> x.count(0));
        }
        x.end(1980);
        checks.due("1980 and 20", 2000, () -> x.feed(BLANKS, BLANKS, BLANKS, BLANKS, BLANKS));
        x.end(1979);
        checks.due("1979 and 20", 1999, () -> x.feed(BLANKS, BLANKS, BLANKS, BLANKS, BLANKS));
        checks.due("all of it is read", 0, () -> x.system());
        checks.due("there is room again", 20, () -> x.feed(0, 0, 0, 0, 0));
    }

    private static void feedThatIsRefused() {
        checks.sentence(2, "A call that throws changes nothing, but THE TAPE (feed leaves it too)");
        ChartHouse x = new ChartHouse();
        Checks.tape(x, Checks.times(1980 - ONE.length(), " ") + ONE + Checks.times(20, "\n"));
        checks.due("full", 2000, () -> x.count(0));
        checks.refused("refused", IndexOutOfBoundsException.class, () -> x.feed(-1, -1, -1, -1, -1));
        checks.due("full as before", 2000, () -> x.count(0));
        checks.due("its bytes are there", 1, () -> x.system());
        ChartHouse y = new ChartHouse();
        Checks.tape(y, Checks.times(1985, " "));
        checks.refused("refused", IndexOutOfBoundsException.class, () -> y.feed(-1, -1, -1, -1, -1));
        checks.due("no part of the 20 bytes came", 0, () -> y.system());
    }

    private static void feedPlaces() {
        checks.sentence(2, "The 20 bytes of five ints, the highest of each first");
        for (int place = 0; place < 20; place++) {
            int[] ints = {BLANKS, BLANKS, BLANKS, BLANKS, BLANKS};
            // 0xA0 is a byte that can't stand, and in the highest place it makes the int negative.
            ints[place / 4] ^= 0x80 << (24 - 8 * (place % 4));
            ChartHouse x = new ChartHouse();
            x.feed(ints[0], ints[1], ints[2], ints[3], ints[4]);
            int fault = -1 - place;
            checks.due("byte " + place, fault, () -> x.system());
        }
        ChartHouse x = new ChartHouse();
        for (int i = 0; i < 100; i++) {
            x.feed(BLANKS, BLANKS, BLANKS, BLANKS, i < 99 ? BLANKS : BLANKS + 1);
        }
        checks.due("the last of 2000", -2000, () -> x.system());
    }

    private static void endRange() {
        checks.sentence(3, "n 0 .. its length");
        ChartHouse x = new ChartHouse();
        checks.due("0 of none", 0, () -> x.end(0));
        checks.refused("1 of none", IllegalArgumentException.class, () -> x.end(1));
        checks.refused("-1 of none", IllegalArgumentException.class, () -> x.end(-1));
        x.feed(BLANKS, BLANKS, BLANKS, BLANKS, BLANKS);
        checks.refused("-1", IllegalArgumentException.class, () -> x.end(-1));
        checks.refused("the least int", IllegalArgumentException.class, () -> x.end(Integer.MIN_VALUE));
        checks.refused("21 of 20", IllegalArgumentException.class, () -> x.end(21));
        checks.refused("the largest int", IllegalArgumentException.class, () -> x.end(Integer.MAX_VALUE));
        checks.due("it keeps its length", 20, () -> x.count(0));
        checks.due("20 of 20", 20, () -> x.end(20));
        checks.due("19 of 20", 19, () -> x.end(19));
        checks.refused("20 of 19", IllegalArgumentException.class, () -> x.end(20));
        checks.due("1", 1, () -> x.end(1));
        checks.due("0", 0, () -> x.end(0));
        checks.due("its length", 0, () -> x.count(0));
    }

    private static void endOfFull() {
        checks.sentence(3, "n 0 .. its length (2000 bytes)");
        ChartHouse x = new ChartHouse();
        Checks.tape(x, Checks.times(2000, " "));
        checks.refused("2001 of 2000", IllegalArgumentException.class, () -> x.end(2001));
        checks.due("2000 of 2000", 2000, () -> x.end(2000));
        checks.due("1999 of 2000", 1999, () -> x.end(1999));
        checks.due("its length", 1999, () -> x.count(0));
    }

    private static void endKeepsTheFirst() {
        checks.sentence(3, "THE TAPE keeps its first n bytes");
        ChartHouse x = new ChartHouse();
        Checks.tape(x, ONE + "#");
        x.end(ONE.length());
        checks.due("what is behind them is not read", 1, () -> x.system());
        Checks.tape(x, ONE);
        x.end(ONE.length() - 1);
        checks.due("one less lacks", -ONE.length(), () -> x.system());
        Checks.tape(x, "abcdefghijklmnopqrst");
        x.end(1);
        x.feed(0x62202020, BLANKS, BLANKS, BLANKS, BLANKS);
        x.outside(0, 5);
        checks.same("what comes then comes behind them", "ab(5)-1", Checks.queue(x, 0));
        Checks.tape(x, "abc");
        x.end(0);
        checks.refused("0 bytes are no NAME", UnsupportedOperationException.class, () -> x.outside(0, 5));
    }

    private static void emptied(ChartHouse x, String how) {
        checks.due("THE TAPE behind " + how, 0, () -> x.count(0));
    }

    private static void readingEmpties() {
        checks.sentence(4, "a call that reads THE TAPE leaves it empty, whatever comes of it");
        ChartHouse x = new ChartHouse();
        Checks.tape(x, ONE);
        checks.due("system", 1, () -> x.system());
        emptied(x, "system");
        checks.due("the next one is empty", 0, () -> x.system());
        checks.sentence(17, "a call that reads THE TAPE leaves it empty, whatever comes of it");
        Checks.tape(x, "a>b:m;");
        checks.due("chart", 1, () -> x.chart());
        emptied(x, "chart");
        checks.due("the next one is empty", 0, () -> x.chart());
        checks.sentence(6, "a call that reads THE TAPE leaves it empty, whatever comes of it");
        ChartHouse y = Checks.begun(ONE);
        for (int i = 0; i < 9; i++) {
            int came = i < 8 ? 1 : 0;
            Checks.tape(y, "m");
            checks.due("outside", came, () -> y.outside(0, 1));
            emptied(y, "outside that answers " + came);
        }
        checks.sentence(11, "a call that reads THE TAPE leaves it empty, whatever comes of it");
        Checks.tape(y, "v");
        checks.due("variable", 7, () -> y.variable(0));
        emptied(y, "variable");
    }

    private static void readingEmptiesWhenRefused() {
        ChartHouse none = new ChartHouse();
        ChartHouse x = Checks.begun(ONE);
        checks.sentence(4, "a call that reads THE TAPE leaves it empty, whatever comes of it (a FAULT)");
        checks.due("system", -1, () -> Checks.system(none, "#"));
        emptied(none, "a FAULT");
        checks.due("system", -2001, () -> Checks.system(none, "process a(1){start{" + Checks.times(1981, " ")));
        emptied(none, "a FAULT of 2000 bytes");
        checks.sentence(17, "a call that reads THE TAPE leaves it empty, whatever comes of it (what can't stand)");
        checks.due("chart", -1, () -> Checks.chart(none, "#"));
        emptied(none, "chart");
        checks.sentence(6, "a call that reads THE TAPE leaves it empty, whatever comes of it (refused)");
        checks.refused("no SYSTEM", IllegalStateException.class, () -> Checks.outside(none, 0, "m", 0));
        emptied(none, "outside without SYSTEM");
        checks.refused("no INSTANCE", NoSuchElementException.class, () -> Checks.outside(x, 1, "m", 0));
        emptied(x, "outside without INSTANCE");
        checks.refused("no NAME", UnsupportedOperationException.class, () -> Checks.outside(x, 0, "7", 0));
        emptied(x, "outside without NAME");
        checks.sentence(11, "a call that reads THE TAPE leaves it empty, whatever comes of it (refused)");
        checks.refused("no SYSTEM", IllegalStateException.class, () -> Checks.variable(none, 0, "v"));
        emptied(none, "variable without SYSTEM");
        checks.refused("no INSTANCE", NoSuchElementException.class, () -> Checks.variable(x, 1, "v"));
        emptied(x, "variable without INSTANCE");
        checks.refused("no VARIABLE", UnsupportedOperationException.class, () -> Checks.variable(x, 0, "w"));
        emptied(x, "variable without VARIABLE");
    }

    private static void othersLeaveTheTape() {
        checks.sentence(21, "bytes of THE TAPE (a call that does not read it leaves it as it is)");
        ChartHouse x = Checks.begun(ONE);
        Checks.chart(x, "a>b:m;c>b:m;");
        Checks.outside(x, 0, "m", 3);
        Checks.tape(x, "v");
        x.begin();
        x.turn(0);
        x.run(1);
        x.time(1);
        x.look(0, 0);
        x.event(0, 3);
        x.word(0);
        x.walk(0, 0, 0);
        x.fits();
        x.races();
        x.race(0, 0);
        Checks.answerOf(() -> x.queue(0, 0, 2));
        Checks.answerOf(() -> x.act(0));
        Checks.answerOf(() -> x.turn(9));
        checks.due("its length", 1, () -> x.count(0));
        checks.due("its bytes", 7, () -> x.variable(0));
    }

    private static ChartHouse named(String name) {
        ChartHouse x = Checks.begun("process " + name + "(1){start{stop;}}");
        checks.due("the length of " + name, name.length(), () -> x.event(0, 3));
        return x;
    }

    private static void wordRange() {
        checks.sentence(14, "i is none of its bytes: IndexOutOfBoundsException");
        for (int length : new int[] {1, 7, 8, 9, 12}) {
            ChartHouse x = named("abcdefghijkl".substring(0, length));
            checks.refused("-1 of " + length, IndexOutOfBoundsException.class, () -> x.word(-1));
            checks.due("the last of " + length, (0x60L + length) << 56, () -> x.word(length - 1));
            checks.refused("behind the last of " + length, IndexOutOfBoundsException.class, () -> x.word(length));
            checks.refused("the least int", IndexOutOfBoundsException.class, () -> x.word(Integer.MIN_VALUE));
            checks.refused("the largest int", IndexOutOfBoundsException.class, () -> x.word(Integer.MAX_VALUE));
        }
        ChartHouse x = named("a");
        x.turn(0);
        checks.due("an event without NAME", 0, () -> x.event(1, 3));
        checks.refused("0 of an empty OUT", IndexOutOfBoundsException.class, () -> x.word(0));
    }

    private static void wordZeros() {
        checks.sentence(14, "8 bytes of OUT from i on, the highest first, zeros behind its end");
        ChartHouse x = named("abcdefghijkl");
        long[] due = {0x6162636465666768L, 0x6263646566676869L, 0x636465666768696AL, 0x6465666768696A6BL,
            0x65666768696A6B6CL, 0x666768696A6B6C00L, 0x6768696A6B6C0000L, 0x68696A6B6C000000L,
            0x696A6B6C00000000L, 0x6A6B6C0000000000L, 0x6B6C000000000000L, 0x6C00000000000000L};
        for (int i = 0; i < due.length; i++) {
            int from = i;
            checks.due("from " + i, due[i], () -> x.word(from));
        }
        checks.due("7 bytes and a zero", 0x6162636465666700L, () -> named("abcdefg").word(0));
        checks.due("8 bytes", 0x6162636465666768L, () -> named("abcdefgh").word(0));
        checks.due("one byte", 0x7A00000000000000L, () -> named("z").word(0));
    }

    private static void wordOfShorterOut() {
        checks.sentence(14, "zeros behind its end (of a longer OUT that was there before nothing is left)");
        ChartHouse x = Checks.begun("process abcdefghijkl(1){start{next s;}state s{save zy;}}");
        Checks.outside(x, 0, "zy", 0);
        x.event(0, 3);
        x.queue(0, 0, 2);
        checks.due("its length", 2, () -> x.count(1));
        checks.due("word 0", 0x7A79000000000000L, () -> x.word(0));
        checks.due("word 1", 0x7900000000000000L, () -> x.word(1));
        checks.refused("word 2", IndexOutOfBoundsException.class, () -> x.word(2));
    }

    private static void lastOf512Calls() {
        checks.sentence(1, "An object is used for at most 512 calls after it has been made (the last is as good as the first)");
        String text = "process a(1){start{next s;}state s{any{}}}";
        ChartHouse x = Checks.begun(text);
        x.turn(0);
        int calls = (text.length() + 19) / 20 + 3;
        int names = 0;
        // Each NAME is a new one: A, and two letters that count.
        for (; calls + 3 <= 510; calls += 3) {
            int letters = ('a' + names / 26) << 16 | ('a' + names % 26) << 8;
            x.feed(0x41000020 | letters, BLANKS, BLANKS, BLANKS, BLANKS);
            checks.due("NAME " + names + " comes", 1, () -> x.outside(0, 1));
            checks.due("and is taken", 4, () -> x.turn(0));
            names++;
        }
        for (; calls < 510; calls++) {
            x.count(0);
        }
        int last = names - 1;
        checks.due("the 511th", 3, () -> x.event(2 * last + 1, 3));
        long due = 0x41L << 56 | (long) ('a' + last / 26) << 48 | (long) ('a' + last % 26) << 40;
        checks.due("the 512th", due, () -> x.word(0));
    }
}
