import java.util.NoSuchElementException;

/** Promises 5 to 13: begin, outside, turn, run, time, look, variable, queue, event. */
public final class RunningTest {
    private static final Checks checks = new Checks();

    public static void main(String[] args) {
        begin();
        outside();
        turnKinds();
        priorityAndSave();
        blocksEnd();
        expressions();
        sends();
        timers();
        timersInOrder();
        makes();
        stops();
        run();
        look();
        variable();
        queue();
        event();
        checks.finish();
    }

    /** One instance that says what the expression is. */
    private static void says(String expression, int want) {
        ChartHouse x = Checks.begun("process a(1){let v=7;let w=1000000;start{say " + expression + ";next s;}state s{}}");
        x.turn(0);
        checks.same("say " + expression, "7 0  " + want, Checks.event(x, 1));
    }

    private static void begin() {
        ChartHouse x = Checks.begun("process a(3){start{next s;}state s{}}process b(0){start{}}"
            + "process c(3){start{next s;}state s{}}process d(3){start{}}");
        checks.due("as many as there is room for", 8, () -> x.count(3));
        checks.due("nothing is lost", 0, () -> x.count(9));
        checks.same("made", "4 0 a -1 | 4 1 a -1 | 4 2 a -1 | 4 3 c -1 | 4 4 c -1 | 4 5 c -1 | 4 6 d -1 | 4 7 d -1",
            Checks.events(x, 0));
        x.run(9);
        x.time(10);
        Checks.outside(x, 0, "sig", 1);
        checks.due("begin", 8, () -> x.begin());
        checks.due("ids", 8, () -> x.count(4));
        checks.due("now", 0, () -> x.count(5));
        checks.due("events", 8, () -> x.count(6));
        checks.due("signals", 0, () -> x.count(7));
        checks.due("no state", -1, () -> x.look(0, 1));
        ChartHouse y = Checks.begun("process a(1){let v=5;start{v=6;set t 5;send m to parent;send m to self;next s;}state s{}}");
        y.run(2);
        y.begin();
        checks.due("the variable", 5, () -> Checks.variable(y, 0, "v"));
        checks.due("timers", 0, () -> y.count(8));
        checks.due("lost", 0, () -> y.count(9));
        checks.due("thrown", 0, () -> y.count(10));
        checks.due("sender", -1, () -> y.look(0, 5));
    }

    private static void outside() {
        ChartHouse x = Checks.begun("process a(2){start{next s;}state s{on go{}}}");
        checks.due("comes", 1, () -> Checks.outside(x, 1, "  go\n", -5));
        checks.same("its queue", "go(-5)-1", Checks.queue(x, 1));
        checks.same("the other's", "", Checks.queue(x, 0));
        checks.same("event", "0 -1 go -5", Checks.event(x, 2));
        String[] bad = {"", " ", "5", "go go", "go;", "process", "now", "abcdefghijklm", "a_", "\u0000", "go\u0000"};
        for (String text : bad) {
            checks.refused("outside " + text, UnsupportedOperationException.class, () -> Checks.outside(x, 1, text, 0));
        }
        checks.refused("outside who", NoSuchElementException.class, () -> Checks.outside(x, 2, "5", 0));
        checks.refused("outside who", NoSuchElementException.class, () -> Checks.outside(x, -1, "go", 0));
        checks.due("one signal", 1, () -> x.count(7));
        checks.due("three events", 3, () -> x.count(6));
        for (int i = 2; i <= 8; i++) {
            int value = i;
            checks.due("comes", 1, () -> Checks.outside(x, 1, "unknown", value));
        }
        checks.due("LOST", 0, () -> Checks.outside(x, 1, "more", 9));
        checks.same("sent and LOST", "0 -1 more 9 | 3 -1 more 9", Checks.events(x, 10));
        checks.due("lost", 1, () -> x.count(9));
        checks.due("eight", 8, () -> x.look(1, 2));
    }

    private static void turnKinds() {
        ChartHouse x = Checks.begun("process a(1){let v=0;start{next s;}"
            + "state s{first f(v){say v;}on i(v){say v;}when(v==3){v=4;say 33;}when(v==4){v=5;}on none{next r;}any{say 44;}}"
            + "state r{on q{}}}");
        checks.refused("turn of nobody", NoSuchElementException.class, () -> x.turn(1));
        checks.refused("turn of nobody", NoSuchElementException.class, () -> x.turn(-1));
        Checks.outside(x, 0, "i", 3);
        checks.due("START goes first", 1, () -> x.turn(0));
        checks.due("INPUT", 3, () -> x.turn(0));
        checks.due("CONTINUOUS", 6, () -> x.turn(0));
        checks.due("CONTINUOUS, the other", 6, () -> x.turn(0));
        checks.due("nothing", 0, () -> x.turn(0));
        Checks.outside(x, 0, "i", 3);
        Checks.outside(x, 0, "z", 8);
        Checks.outside(x, 0, "f", 9);
        checks.due("PRIORITY", 2, () -> x.turn(0));
        checks.due("INPUT", 3, () -> x.turn(0));
        checks.due("ANY goes ahead of CONTINUOUS", 4, () -> x.turn(0));
        checks.due("CONTINUOUS", 6, () -> x.turn(0));
        Checks.outside(x, 0, "none", 0);
        checks.due("INPUT", 3, () -> x.turn(0));
        Checks.outside(x, 0, "i", 12);
        checks.due("THROWN AWAY", 5, () -> x.turn(0));
        checks.due("thrown", 1, () -> x.count(10));
        checks.due("nothing", 0, () -> x.turn(0));
        checks.same("events", "4 0 a -1 | 0 -1 i 3 | 1 0 i 3 | 7 0  3 | 7 0  33 | 0 -1 i 3 | 0 -1 z 8 | 0 -1 f 9"
            + " | 1 0 f 9 | 7 0  9 | 1 0 i 3 | 7 0  3 | 1 0 z 8 | 7 0  44 | 7 0  33 | 0 -1 none 0 | 1 0 none 0"
            + " | 0 -1 i 12 | 2 0 i 12", Checks.events(x, 0));
    }

    private static void priorityAndSave() {
        ChartHouse x = Checks.begun("process a(1){let v=0;start{next s;}"
            + "state s{save k;save l;first f{}on i{next r;}when(v==0){v=1;}}state r{on l{}on k{}}}");
        x.turn(0);
        Checks.outside(x, 0, "k", 1);
        Checks.outside(x, 0, "l", 2);
        checks.due("saved ones don't keep CONTINUOUS back", 6, () -> x.turn(0));
        checks.due("saved ones wait", 0, () -> x.turn(0));
        Checks.outside(x, 0, "i", 3);
        Checks.outside(x, 0, "f", 4);
        checks.due("PRIORITY from behind", 2, () -> x.turn(0));
        checks.same("the others stay in order", "k(1)-1 l(2)-1 i(3)-1", Checks.queue(x, 0));
        checks.due("INPUT behind saved ones", 3, () -> x.turn(0));
        checks.same("saved", "k(1)-1 l(2)-1", Checks.queue(x, 0));
        checks.due("INPUT of what was saved", 3, () -> x.turn(0));
        checks.same("saved", "l(2)-1", Checks.queue(x, 0));
        ChartHouse y = Checks.begun("process a(1){start{next s;}state s{first p{say 1;}first q{say 2;}any{say 3;}}}");
        y.turn(0);
        Checks.outside(y, 0, "z", 0);
        Checks.outside(y, 0, "q", 0);
        Checks.outside(y, 0, "p", 0);
        y.run(3);
        checks.same("the first in the queue, not in the state", "1 0 q 0 | 7 0  2 | 1 0 p 0 | 7 0  1 | 1 0 z 0 | 7 0  3",
            Checks.events(y, 4));
    }

    private static void blocksEnd() {
        ChartHouse x = Checks.begun("process a(1){let v=0;start{say 1;if(v){say 2;}else{say 3;next t;say 4;}say 5;}"
            + "state s{}state t{on p{say 6;}on q{say 7;stop;say 8;}on r(v){if(v){say v;if(v-1){next s;}say 9;}}}}");
        checks.due("START", 1, () -> x.turn(0));
        checks.due("next", 1, () -> x.look(0, 1));
        Checks.outside(x, 0, "p", 0);
        checks.due("INPUT", 3, () -> x.turn(0));
        checks.due("the state stays", 1, () -> x.look(0, 1));
        Checks.outside(x, 0, "r", 1);
        x.turn(0);
        checks.due("the state stays", 1, () -> x.look(0, 1));
        Checks.outside(x, 0, "r", 2);
        Checks.outside(x, 0, "q", 0);
        x.turn(0);
        checks.due("next within if", 0, () -> x.look(0, 1));
        checks.due("THROWN AWAY", 5, () -> x.turn(0));
        checks.same("events", "7 0  1 | 7 0  3 | 0 -1 p 0 | 1 0 p 0 | 7 0  6 | 0 -1 r 1 | 1 0 r 1 | 7 0  1 | 7 0  9"
            + " | 0 -1 r 2 | 0 -1 q 0 | 1 0 r 2 | 7 0  2 | 2 0 q 0", Checks.events(x, 1));
        ChartHouse y = Checks.begun("process a(2){start{say 1;}}process b(1){start{if(0){next s;}}state s{}}");
        checks.due("START", 1, () -> y.turn(0));
        checks.due("it is gone", 2, () -> y.count(3));
        checks.refused("it is gone", NoSuchElementException.class, () -> y.look(0, 0));
        checks.refused("it is gone", NoSuchElementException.class, () -> y.turn(0));
        checks.same("stopped", "7 0  1 | 5 0  0", Checks.events(y, 3));
        checks.due("START", 1, () -> y.turn(2));
        checks.due("ids are not given twice", 3, () -> y.count(4));
        checks.due("one is left", 1, () -> y.count(3));
    }

    private static void expressions() {
        says("1+2*3", 7);
        says("(1+2)*3", 9);
        says("10-3-2", 5);
        says("2*3*4-1", 23);
        says("-5+2", -3);
        says("-(5+2)", -7);
        says("- -5", 5);
        says("-2*-3", 6);
        says("1-(2-3)", 2);
        says("v", 7);
        says("-v", -7);
        says("v==7", 1);
        says("v==8", 0);
        says("v<8", 1);
        says("v<7", 0);
        says("-8<-7", 1);
        says("1+1==2", 1);
        says("3<1+2", 0);
        says("(1<2)+(2<3)", 2);
        says("w*w", -727379968);
        says("w*2147+483647", 2147483647);
        says("w*2147+483648", -2147483648);
        says("w*2147+483648-1", 2147483647);
        says("-(w*2147+483648)", -2147483648);
        says("now", 0);
        says("self", 0);
        says("sender", -1);
        says("parent", -1);
        says("child", -1);
        says("(((((((1)))))))", 1);
        says("1==(1==(1==(1==(1==(1==1)))))", 1);
        says("1<1+1*(1<1+1*(1<1+1*(1<1+1*(1<1+1*(1<1+1*(1<1+1*2))))))", 1);
    }

    private static void sends() {
        ChartHouse x = Checks.begun("process a(1){let v=0;start{next s;}"
            + "state s{on go{send p to self;send q(v+1)to b;send r(2)to out;send p to sender;send p to parent;"
            + "send p to child;make b;send c(4)to child;}on q{send back(5)to sender;}any{}}}"
            + "process b(2){let w=9;start{next s;}state s{on q(w){send q(w)to sender;}on c{stop;}}}");
        x.run(3);
        Checks.outside(x, 0, "go", 0);
        x.turn(0);
        checks.same("events", "1 0 go 0 | 0 0 p 0 | 0 0 q 1 | 0 0 r 2 | 0 0 p 0 | 3 0 p 0 | 0 0 p 0 | 3 0 p 0"
            + " | 0 0 p 0 | 3 0 p 0 | 4 3 b 0 | 0 0 c 4", Checks.events(x, 4));
        checks.due("lost", 3, () -> x.count(9));
        checks.same("self", "p(0)0", Checks.queue(x, 0));
        checks.same("the least of b", "q(1)0", Checks.queue(x, 1));
        checks.same("not the other", "", Checks.queue(x, 2));
        checks.same("child", "c(4)0", Checks.queue(x, 3));
        x.turn(1);
        checks.same("to sender", "p(0)0 q(1)1", Checks.queue(x, 0));
        checks.due("its value comes to the variable", 1, () -> Checks.variable(x, 1, "w"));
        x.turn(0);
        x.turn(0);
        checks.same("back", "back(5)0", Checks.queue(x, 1));
        ChartHouse y = Checks.begun("process a(1){start{next s;}state s{on go{send m(1)to self;send m(2)to self;send m(3)to self;}"
            + "save m;}}");
        y.turn(0);
        for (int i = 0; i < 3; i++) {
            Checks.outside(y, 0, "go", 0);
            y.turn(0);
        }
        checks.due("eight", 8, () -> y.look(0, 2));
        checks.due("the ninth is LOST", 1, () -> y.count(9));
        checks.same("sent, then LOST", "0 0 m 3 | 3 0 m 3", Checks.events(y, y.count(6) - 2));
        ChartHouse z = Checks.begun("process a(1){start{send m(1)to b;send m(2)to a;stop;}}process b(0){start{}}");
        z.turn(0);
        checks.same("nobody of b", "0 0 m 1 | 3 0 m 1 | 0 0 m 2 | 5 0  0", Checks.events(z, 1));
        checks.due("with its queue", 0, () -> z.count(7));
        // The value of a signal without a variable goes nowhere; without EXPR it is 0.
        ChartHouse w = Checks.begun("process a(1){let v=5;start{send m to self;send n(3)to self;next s;}state s{on m(v){}on n{}}}");
        w.run(2);
        checks.due("0 without", 0, () -> Checks.variable(w, 0, "v"));
        w.run(1);
        checks.due("no variable", 0, () -> Checks.variable(w, 0, "v"));
    }

    private static void timers() {
        ChartHouse x = Checks.begun("process a(1){let v=0;start{next s;}state s{on set1(v){set t v;}on reset1{reset t;}"
            + "on four{set a 5;set b 5;set c 5;set d 5;}on t(v){say now;}on me{send t(4)to self;}save w;}}");
        x.turn(0);
        Checks.outside(x, 0, "set1", 10);
        x.turn(0);
        checks.due("not yet", 0, () -> x.time(9));
        checks.due("due", 1, () -> x.time(1));
        checks.same("its signal", "t(0)0", Checks.queue(x, 0));
        checks.same("event", "6 0 t 0", Checks.event(x, x.count(6) - 1));
        checks.due("it is set no more", 0, () -> x.look(0, 3));
        x.turn(0);
        checks.due("sender is oneself", 0, () -> x.look(0, 5));
        checks.same("said", "7 0  10", Checks.event(x, x.count(6) - 1));
        // set again is once, and ahead of that reset.
        Checks.outside(x, 0, "set1", 10);
        Checks.outside(x, 0, "set1", 20);
        x.run(2);
        checks.due("once", 1, () -> x.look(0, 3));
        checks.due("not at 10", 0, () -> x.time(19));
        checks.due("at 20", 1, () -> x.time(1));
        x.turn(0);
        // reset takes the signals of the timer (and what oneself sent) from the queue.
        Checks.outside(x, 0, "set1", 1);
        x.turn(0);
        x.time(1);
        Checks.outside(x, 0, "w", 1);
        Checks.outside(x, 0, "t", 2);
        checks.same("queue", "t(0)0 w(1)-1 t(2)-1", Checks.queue(x, 0));
        ChartHouse y = Checks.begun("process a(1){let v=0;start{set t 1;next s;}state s{save t;on go{reset t;}on again{set t 5;}}}");
        y.turn(0);
        y.time(1);
        Checks.outside(y, 0, "t", 7);
        Checks.outside(y, 0, "go", 7);
        checks.same("queue", "t(0)0 t(7)-1 go(7)-1", Checks.queue(y, 0));
        y.turn(0);
        checks.same("only its own go", "t(7)-1", Checks.queue(y, 0));
        Checks.outside(y, 0, "again", 0);
        y.turn(0);
        y.time(4);
        Checks.outside(y, 0, "go", 7);
        y.turn(0);
        checks.due("no timer", 0, () -> y.look(0, 3));
        checks.due("nothing comes due", 0, () -> y.time(100));
        // Four timers at most, the fifth is LOST; one of the four can be set again.
        ChartHouse z = Checks.begun("process a(1){let v=0;start{set a 5;set b 5;set c 5;set d 5;set e 5;set a 6;set e 7;next s;}"
            + "state s{}}");
        z.turn(0);
        checks.same("two are LOST", "3 0 e 0 | 3 0 e 0", Checks.events(z, 1));
        checks.due("lost", 2, () -> z.count(9));
        checks.due("four", 4, () -> z.count(8));
        checks.refused("time below", IllegalArgumentException.class, () -> z.time(-1));
        checks.refused("time above", IllegalArgumentException.class, () -> z.time(100001));
        checks.due("now", 0, () -> z.count(5));
        checks.due("three", 3, () -> z.time(5));
        checks.due("the fourth", 1, () -> z.time(100000));
        checks.due("now", 100005, () -> z.count(5));
        // With a full queue a timer's signal is LOST.
        ChartHouse f = Checks.begun("process a(1){start{set t 3;next s;}state s{}}");
        f.turn(0);
        for (int i = 0; i < 8; i++) {
            Checks.outside(f, 0, "m", i);
        }
        checks.due("it came due", 1, () -> f.time(3));
        checks.same("and is LOST", "6 0 t 0 | 3 0 t 0", Checks.events(f, 9));
        checks.due("lost", 1, () -> f.count(9));
        checks.due("set no more", 0, () -> f.count(8));
    }

    private static void timersInOrder() {
        ChartHouse x = Checks.begun("process a(2){let v=0;start{set z 5;set y 3;set x 5;set w 4;next s;}state s{}}");
        x.run(2);
        checks.due("all", 8, () -> x.time(5));
        checks.same("by when, by id, as they were set", "6 0 y 0 | 6 1 y 0 | 6 0 w 0 | 6 1 w 0 | 6 0 z 0 | 6 0 x 0"
            + " | 6 1 z 0 | 6 1 x 0", Checks.events(x, 2));
        checks.same("queue", "y(0)0 w(0)0 z(0)0 x(0)0", Checks.queue(x, 0));
        ChartHouse y = Checks.begun("process a(1){start{set p 5;set q 5;set p 5;next s;}state s{}}");
        y.turn(0);
        y.time(7);
        checks.same("set again is set later", "6 0 q 0 | 6 0 p 0", Checks.events(y, 1));
        ChartHouse z = Checks.begun("process a(1){start{set p 0-7;set q 1000000;set r 1000000*2;next s;}state s{any{}}}");
        z.turn(0);
        checks.due("at NOW", 1, () -> z.time(0));
        for (int i = 0; i < 9; i++) {
            checks.due("not yet", 0, () -> z.time(100000));
        }
        checks.due("not yet", 0, () -> z.time(99999));
        checks.due("both", 2, () -> z.time(1));
    }

    private static void makes() {
        ChartHouse x = Checks.begun("process a(1){start{next s;}state s{on go{make b;say child;}on me{make a;say child;}}}"
            + "process b(0){let v=3;start{say parent;next s;}state s{on end1{stop;}}}");
        x.turn(0);
        for (int i = 0; i < 5; i++) {
            Checks.outside(x, 0, "go", 0);
            x.turn(0);
        }
        checks.same("four of a process at most", "4 1 b 0 | 7 0  1 | 0 -1 go 0 | 1 0 go 0 | 4 2 b 0 | 7 0  2 | 0 -1 go 0"
            + " | 1 0 go 0 | 4 3 b 0 | 7 0  3 | 0 -1 go 0 | 1 0 go 0 | 4 4 b 0 | 7 0  4 | 0 -1 go 0 | 1 0 go 0 | 3 0 b 0"
            + " | 7 0  -1", Checks.events(x, 3));
        checks.due("child", -1, () -> x.look(0, 6));
        checks.due("lost", 1, () -> x.count(9));
        checks.due("parent", 0, () -> x.look(4, 4));
        checks.due("no start yet", -1, () -> x.look(4, 1));
        checks.due("its variable", 3, () -> Checks.variable(x, 4, "v"));
        for (int i = 0; i < 4; i++) {
            Checks.outside(x, 0, "me", 0);
            x.turn(0);
        }
        checks.due("eight at most", 8, () -> x.count(3));
        checks.due("four of a", 8, () -> x.count(4));
        checks.due("lost", 2, () -> x.count(9));
        x.turn(1);
        Checks.outside(x, 1, "end1", 0);
        x.turn(1);
        checks.refused("gone", NoSuchElementException.class, () -> x.look(1, 0));
        Checks.outside(x, 0, "go", 0);
        x.turn(0);
        checks.due("a new id", 8, () -> x.look(0, 6));
        checks.due("its process", 1, () -> x.look(8, 0));
        ChartHouse y = Checks.begun("process a(3){start{make c;next s;}state s{}}process b(3){start{next s;}state s{}}"
            + "process c(2){start{next s;}state s{}}");
        y.turn(0);
        checks.same("eight are there", "3 0 c 0", Checks.events(y, 8));
        checks.due("child", -1, () -> y.look(0, 6));
    }

    private static void stops() {
        ChartHouse x = Checks.begun("process a(3){start{set t 5;send m to self;next s;}state s{on m{stop;}}}");
        x.turn(1);
        checks.due("a timer", 1, () -> x.count(8));
        checks.due("a signal", 1, () -> x.count(7));
        checks.due("INPUT", 3, () -> x.turn(1));
        checks.due("no timer", 0, () -> x.count(8));
        checks.due("two", 2, () -> x.count(3));
        checks.refused("gone", NoSuchElementException.class, () -> x.look(1, 0));
        checks.due("the others are there", 0, () -> x.look(2, 0));
        checks.due("nothing comes due", 0, () -> x.time(5));
        checks.same("stopped", "1 1 m 0 | 5 1  0", Checks.events(x, 4));
    }

    private static void run() {
        ChartHouse x = Checks.begun("process a(3){let n=0;start{next s;}state s{when(n<2){n=n+1;say self;}on m{say 9;}}}");
        checks.refused("run below", IllegalArgumentException.class, () -> x.run(-1));
        checks.refused("run above", IllegalArgumentException.class, () -> x.run(1001));
        checks.due("none", 0, () -> x.run(0));
        checks.due("starts", 3, () -> x.run(3));
        checks.due("one", 1, () -> x.run(1));
        checks.due("the next", 1, () -> x.run(1));
        checks.same("one behind the other", "7 0  0 | 7 1  1", Checks.events(x, 3));
        x.turn(0);
        checks.due("a turn does not matter", 2, () -> x.run(2));
        checks.same("behind the last of the run", "7 0  0 | 7 2  2 | 7 1  1", Checks.events(x, 5));
        checks.due("the last", 1, () -> x.run(1000));
        checks.due("nothing more", 0, () -> x.run(1000));
        Checks.outside(x, 1, "m", 0);
        Checks.outside(x, 2, "m", 0);
        Checks.outside(x, 0, "m", 0);
        checks.due("three", 3, () -> x.run(9));
        checks.same("from the least on", "1 0 m 0 | 7 0  9 | 1 1 m 0 | 7 1  9 | 1 2 m 0 | 7 2  9", Checks.events(x, 12));
        x.begin();
        checks.due("since begin from id 0", 2, () -> x.run(2));
        checks.due("id 0", 0, () -> x.look(0, 1));
        checks.due("id 2", -1, () -> x.look(2, 1));
        ChartHouse y = Checks.begun("process a(1){start{next s;}state s{when(1){}}}");
        checks.due("as many as asked", 1000, () -> y.run(1000));
        ChartHouse z = Checks.begun("process a(1){start{make b;next s;}state s{}}process b(1){start{say self;stop;}}");
        checks.due("the new one too", 3, () -> z.run(10));
        checks.same("by id", "4 2 b 0 | 7 1  1 | 5 1  0 | 7 2  2 | 5 2  0", Checks.events(z, 2));
    }

    private static void look() {
        ChartHouse x = Checks.begun("process z(0){start{}}process a(1){start{make b;set t 4;set u 9;next q;}"
            + "state p{}state q{save k;on m{}}}process b(0){start{send m(1)to parent;next s;}state s{}}");
        long[] ahead = {1, -1, 0, 0, -1, -1, -1};
        for (int what = 0; what < 7; what++) {
            int asked = what;
            checks.due("ahead " + what, ahead[what], () -> x.look(0, asked));
        }
        x.run(3);
        Checks.outside(x, 0, "k", 1);
        Checks.outside(x, 0, "k", 1);
        long[] behind = {1, 1, 2, 2, -1, 1, 1};
        long[] child = {2, 0, 0, 0, 0, -1, -1};
        for (int what = 0; what < 7; what++) {
            int asked = what;
            checks.due("behind " + what, behind[what], () -> x.look(0, asked));
            checks.due("child " + what, child[what], () -> x.look(1, asked));
        }
        checks.refused("what below", IllegalArgumentException.class, () -> x.look(0, -1));
        checks.refused("what above", IllegalArgumentException.class, () -> x.look(9, 7));
        checks.refused("who", NoSuchElementException.class, () -> x.look(2, 0));
        checks.refused("who", NoSuchElementException.class, () -> x.look(-1, 0));
    }

    private static void variable() {
        ChartHouse x = Checks.begun("process a(1){let abcdefghijkl=1;let abcdefghijk=2;let A=3;let x9=1000000;let l=5;let m=6;"
            + "start{m=-m;next s;}state s{}}process b(1){let q=8;start{}}");
        checks.due("the first", 1, () -> Checks.variable(x, 0, "abcdefghijkl"));
        checks.due("a part of it", 2, () -> Checks.variable(x, 0, "abcdefghijk"));
        checks.due("large", 3, () -> Checks.variable(x, 0, "\n A "));
        checks.due("most", 1000000, () -> Checks.variable(x, 0, "x9"));
        checks.due("at first", 6, () -> Checks.variable(x, 0, "m"));
        x.turn(0);
        checks.due("changed", -6, () -> Checks.variable(x, 0, "m"));
        checks.due("of the other", 8, () -> Checks.variable(x, 1, "q"));
        String[] bad = {"q", "a", "", "5", "x9 x9", "let", "abcdefghijklm", "s", "x9;"};
        for (String text : bad) {
            checks.refused("variable " + text, UnsupportedOperationException.class, () -> Checks.variable(x, 0, text));
        }
        checks.refused("who", NoSuchElementException.class, () -> Checks.variable(x, 2, "q"));
        checks.refused("who", NoSuchElementException.class, () -> Checks.variable(x, -1, "5"));
    }

    private static void queue() {
        ChartHouse x = Checks.begun("process a(2){start{send abcdefghijkl(-5)to a;next s;}state s{save abcdefghijkl;}}");
        x.turn(1);
        Checks.outside(x, 0, "b", 7);
        checks.due("value", -5, () -> x.queue(0, 0, 0));
        checks.due("sender", 1, () -> x.queue(0, 0, 1));
        checks.due("OUT waits", 0, () -> x.count(1));
        checks.due("name", 12, () -> x.queue(0, 0, 2));
        checks.same("OUT", "abcdefghijkl", Checks.out(x));
        checks.due("value", 7, () -> x.queue(0, 1, 0));
        checks.due("sender", -1, () -> x.queue(0, 1, 1));
        checks.due("name", 1, () -> x.queue(0, 1, 2));
        checks.same("OUT", "b", Checks.out(x));
        checks.refused("none", IndexOutOfBoundsException.class, () -> x.queue(0, 2, 2));
        checks.refused("none", IndexOutOfBoundsException.class, () -> x.queue(0, -1, 0));
        checks.refused("none", IndexOutOfBoundsException.class, () -> x.queue(1, 0, 0));
        checks.refused("who", NoSuchElementException.class, () -> x.queue(2, 9, 0));
        checks.refused("what", IllegalArgumentException.class, () -> x.queue(2, 9, 3));
        checks.refused("what", IllegalArgumentException.class, () -> x.queue(0, 0, -1));
        checks.same("OUT stays", "b", Checks.out(x));
    }

    private static void event() {
        ChartHouse x = Checks.begun("process a(1){let n=0;start{next s;}state s{when(n<500){say n;n=n+1;}}}");
        checks.refused("what", IllegalArgumentException.class, () -> x.event(0, -1));
        checks.refused("what", IllegalArgumentException.class, () -> x.event(9, 4));
        checks.refused("none", IndexOutOfBoundsException.class, () -> x.event(-1, 0));
        checks.refused("none", IndexOutOfBoundsException.class, () -> x.event(1, 0));
        x.run(400);
        checks.due("all but one", 400, () -> x.count(6));
        x.run(1);
        checks.due("at most 400", 400, () -> x.count(6));
        checks.same("the first stay", "7 0  398", Checks.event(x, 399));
        checks.refused("none", IndexOutOfBoundsException.class, () -> x.event(400, 0));
        checks.due("it goes on", 400, () -> Checks.variable(x, 0, "n"));
        x.begin();
        checks.due("anew", 1, () -> x.count(6));
    }
}
