import java.util.Arrays;
import java.util.List;
import java.util.NoSuchElementException;
import java.util.Random;

/**
 * Any arguments in any state: a call throws nothing but what the document names for it, and a call
 * that throws changes nothing but the tape. Behind the 512th call answers are free: there the test
 * asks only that nothing else is thrown.
 */
public final class RobustTest {
    private static final int[] EDGES = {Integer.MIN_VALUE, -1000000, -2, -1, 0, 1, 2, 3, 5, 6, 7, 8, 12, 13, 14, 20, 60, 61,
        399, 400, 1000, 1001, 2000, 100000, 100001, 1000000, Integer.MAX_VALUE};
    private static final String[] TEXTS = {
        "process a(2){let v=0;start{set t 1;send m(v)to b;next s;}state s{on t{set t 2;make a;v=v+1;}on m(v){}when(v<9){v=v+1;}save k;any{stop;}}}"
            + "process b(1){start{next s;}state s{first m{send n to sender;send m to a;}any{reset t;}}}",
        "process a(3){let x=1;start{make a;make b;next s;}state s{when(1){send m(x)to out;x=x*3;send m to self;}}}process b(3){start{}}",
        "process a(1){start{if(1){if(1){if(1){if(1){if(1){if(1){if(1){say 1;}}}}}}}next s;}state s{when(((((((now<5))))))){set t 1;}}}",
        "process a(1){start{say ------1;}}", "", "a>b:m;b>a:n;out>a:k;a>out:k;", "a>b:m;c>b:m;d>b:m;", "m", "t", "v", "k", "  x ", "process",
        "process a(1){start{next z;}}", "process a(", "a>", "\u0000\u00ff"};

    private static final int PROMISED_CALLS = 512;
    // The longest of the texts, the call, and what is counted ahead of it and behind it.
    private static final int CALLS_OF_A_STEP = 13 + 3 + 1 + 2 * 13;

    private static int calls;
    private static int wrong;
    // Of the object that is used just now.
    private static int used;
    private static boolean compares;

    public static void main(String[] args) {
        for (int seed = 1; seed <= 6000; seed++) {
            Random random = new Random(seed);
            ChartHouse x = new ChartHouse();
            used = 0;
            compares = true;
            while (used + CALLS_OF_A_STEP <= PROMISED_CALLS) {
                step(x, random, seed);
            }
        }
        lastNames();
        compares = false;
        for (int seed = 1; seed <= 300; seed++) {
            Random random = new Random(seed);
            ChartHouse x = new ChartHouse();
            int many = seed % 10 == 0 ? 10000 : 1000;
            for (int i = 0; i < many; i++) {
                step(x, random, seed);
            }
        }
        manyNames();
        System.out.println(calls + " calls, " + wrong + " threw what they must not or changed something");
        if (wrong != 0) {
            System.exit(1);
        }
    }

    private static int edge(Random random) {
        return random.nextInt(3) == 0 ? EDGES[random.nextInt(EDGES.length)] : random.nextInt(9);
    }

    private static void step(ChartHouse x, Random random, int seed) {
        int a = edge(random);
        int b = edge(random);
        int c = edge(random);
        Class<?> state = IllegalStateException.class;
        Class<?> argument = IllegalArgumentException.class;
        Class<?> index = IndexOutOfBoundsException.class;
        Class<?> element = NoSuchElementException.class;
        Class<?> unsupported = UnsupportedOperationException.class;
        String at = "seed " + seed + " " + a + " " + b + " " + c + " ";
        switch (random.nextInt(24)) {
            case 0: tries(x, at + "feed", () -> x.feed(a, b, c, random.nextInt(), random.nextInt()), index); break;
            case 1: tries(x, at + "end", () -> x.end(a), argument); break;
            case 2: tries(x, at + "system", () -> x.system()); break;
            case 3: tries(x, at + "begin", () -> x.begin(), state); break;
            case 4: tries(x, at + "outside", () -> x.outside(a, b), state, element, unsupported); break;
            case 5: tries(x, at + "turn", () -> x.turn(a), state, element); break;
            case 6: tries(x, at + "run", () -> x.run(a), argument, state); break;
            case 7: tries(x, at + "time", () -> x.time(a), argument, state); break;
            case 8: tries(x, at + "look", () -> x.look(a, b), argument, state, element); break;
            case 9: tries(x, at + "variable", () -> x.variable(a), state, element, unsupported); break;
            case 10: tries(x, at + "queue", () -> x.queue(a, b, c), argument, state, element, index); break;
            case 11: tries(x, at + "event", () -> x.event(a, b), argument, state, index); break;
            case 12: tries(x, at + "word", () -> x.word(a), index); break;
            case 13: tries(x, at + "walk", () -> x.walk(a, b, c), argument, state); break;
            case 14: tries(x, at + "act", () -> x.act(a), index); break;
            case 15: tries(x, at + "chart", () -> x.chart()); break;
            case 16: tries(x, at + "fits", () -> x.fits() ? 1 : 0, state); break;
            case 17: tries(x, at + "races", () -> x.races(), state); break;
            case 18: tries(x, at + "race", () -> x.race(a, b), argument, state, index); break;
            case 19: tries(x, at + "count", () -> x.count(a), argument); break;
            case 20:
            case 21: text(x, random); tries(x, at + "system", () -> x.system()); break;
            case 22: text(x, random); tries(x, at + "chart", () -> x.chart()); break;
            default: text(x, random); tries(x, at + "outside", () -> x.outside(a, b), state, element, unsupported);
        }
    }

    private static void text(ChartHouse x, Random random) {
        String text = TEXTS[random.nextInt(TEXTS.length)];
        x.end(0);
        Checks.tape(x, text);
        used += 2 + (text.length() + 19) / 20;
    }

    private static void tries(ChartHouse x, String what, Checks.Call call, Class<?>... allowed) {
        calls++;
        used++;
        String before = sums(x);
        try {
            call.answer();
        } catch (RuntimeException e) {
            List<Class<?>> list = Arrays.asList(allowed);
            if (!list.contains(e.getClass())) {
                wrong++;
                System.out.println(what + " threw " + e);
            }
            if (!before.equals(sums(x))) {
                wrong++;
                System.out.println(what + " threw and changed " + before + " to " + sums(x));
            }
        }
    }

    /** All that can be counted but the tape. */
    private static String sums(ChartHouse x) {
        if (!compares) {
            return "";
        }
        StringBuilder text = new StringBuilder();
        for (int what = 1; what <= 13; what++) {
            text.append(x.count(what)).append(' ');
        }
        used += 13;
        return text.toString();
    }

    /** A system with as many different names as its text has room for; its instance takes any signal. */
    private static ChartHouse namesOfOneTape() {
        StringBuilder text = new StringBuilder("process p(1){start{next s;}state s{any{}on go{");
        for (int i = 0; text.length() < 1980; i++) {
            text.append("set ").append((char) ('a' + i % 26)).append(i).append(" 1;");
        }
        ChartHouse x = Checks.begun(text.append("}}}").toString());
        x.turn(0);
        return x;
    }

    /** As many names from outside as 512 calls can bring: the last two come back as they came. */
    private static void lastNames() {
        ChartHouse x = namesOfOneTape();
        int spent = 103;
        int brought = 0;
        while (spent + 3 + 2 * 7 <= PROMISED_CALLS) {
            Checks.outside(x, 0, "n" + brought, brought);
            brought++;
            spent += 3;
            calls++;
        }
        // The queue is full behind 8: each is sent and then lost, and what is lost bears the name, too.
        comesBack(x, 2 * brought - 8, "n" + (brought - 1));
        comesBack(x, 2 * brought - 10, "n" + (brought - 2));
    }

    private static void comesBack(ChartHouse x, int event, String want) {
        x.event(event, 3);
        String name = Checks.out(x);
        if (!name.equals(want)) {
            wrong++;
            System.out.println(want + " came back as " + name);
        }
    }

    private static void manyNames() {
        ChartHouse x = namesOfOneTape();
        for (int i = 0; i < 3000; i++) {
            String name = "name" + i;
            int value = i;
            Checks.tape(x, name);
            tries(x, name, () -> x.outside(0, value));
            tries(x, name, () -> x.queue(0, 0, 2));
            tries(x, name, () -> x.turn(0));
        }
    }
}
