/** Promise 4: system, its grammar and its faults. In a text, @ stands ahead of the byte where the fault is due. */
public final class ReadingTest {
    private static final Checks checks = new Checks();

    public static void main(String[] args) {
        whole();
        tokens();
        grammarOfProcesses();
        grammarOfClauses();
        grammarOfActs();
        grammarOfExpressions();
        doubles();
        tooMuch();
        unknown();
        orderOfFaults();
        nesting();
        whatWasStays();
        checks.finish();
    }

    private static void stands(int processes, String text) {
        checks.due("stands: " + text, processes, () -> Checks.system(new ChartHouse(), text));
    }

    private static void fault(String marked) {
        int place = marked.indexOf('@');
        String text = marked.replace("@", "");
        checks.due("fault: " + marked, -1 - place, () -> Checks.system(new ChartHouse(), text));
    }

    private static String inState(String clauses) {
        return "process a(1){let x=0;let y=1;start{next s;}state s{" + clauses + "}}";
    }

    private static String inBlock(String acts) {
        return inState("on go{" + acts + "}");
    }

    private static String ofSay(String expression) {
        return inBlock("say " + expression + ";");
    }

    private static void whole() {
        stands(0, "");
        stands(0, " \n ");
        stands(1, "process a(0){start{}}");
        stands(1, "process a(3){start{}}");
        stands(1, "\nprocess\na\n(\n1\n)\n{\nlet\nx\n=\n5\n;\nstart\n{\n}\nstate\ns\n{\n}\n}\n");
        stands(2, "process a(1){start{}}process b(1){start{}}");
        stands(1, inState("on p{}on q(x){}first r{}first t(y){}save u;any{}when(x){}when(y){}"));
        stands(1, inBlock("x=1;send m to out;send m(x)to self;set t 5;reset t;make a;next s;stop;say x;if(x){}if(y){}else{}"));
        stands(1, inBlock("send m to sender;send m to self;send m to parent;send m to child;send m to out;send m to a;"));
        stands(1, ofSay("-x*(y+1)-now+self*sender-parent-child<4"));
        stands(1, "process a(1){start{stop;}state s{}}");
        stands(2, "process process1(1){start{make letx;}}process letx(0){start{}}");
    }

    private static void tokens() {
        stands(1, "process abcdefghijkl(1){start{}}");
        fault("process @abcdefghijklm(1){start{}}");
        fault("process @1a(1){start{}}");
        fault("process @process(1){start{}}");
        fault("process @now(1){start{}}");
        fault("process a@_b(1){start{}}");
        fault("process@\t a(1){start{}}");
        fault("process@\r a(1){start{}}");
        fault("process a(@\u00001){start{}}");
        fault("@\u00ff");
        fault("@#");
        fault("process a(@\u00e1){start{}}");
        stands(1, "process a(1){let x=1000000;start{}}");
        stands(1, "process a(001){let x=0000001000000;start{}}");
        fault("process a(1){let x=@1000001;start{}}");
        fault("process a(1){let x=@99999999999999999999;start{}}");
        fault("process a(1){let x=@4294967297;start{}}");
        fault("process a(1){let x=12@ab;start{}}");
        fault("@Process a(1){start{}}");
        fault("process a(1){let x@==1;start{}}");
        stands(1, ofSay("x==y"));
        fault(ofSay("x@= =y"));
        fault(ofSay("x==@=y"));
    }

    private static void grammarOfProcesses() {
        fault("@a");
        fault("process@");
        fault("process  @");
        fault("process @(1){start{}}");
        fault("process a @1){start{}}");
        fault("process a(@){start{}}");
        fault("process a(@-1){start{}}");
        fault("process a(@4){start{}}");
        fault("process a(@x){start{}}");
        fault("process a(1@{start{}}");
        fault("process a(1)@start{}}");
        fault("process a(1){@}");
        fault("process a(1){let@");
        fault("process a(1){let @=1;start{}}");
        fault("process a(1){let x @1;start{}}");
        fault("process a(1){let x=@-1;start{}}");
        fault("process a(1){let x=@y;start{}}");
        fault("process a(1){let x=1 @start{}}");
        fault("process a(1){start@;}");
        fault("process a(1){start{}@start{}}");
        fault("process a(1){start{}@let x=1;}");
        fault("process a(1){start{}@");
        fault("process a(1){start{}}@}");
        fault("process a(1){start{}state @{}}");
        fault("process a(1){start{}state s@;}");
        fault("process a(1){start{}state s{}@");
        fault("process a(1){start{}state s{@");
        fault("process a(1){start{}state s{@state t{}}}");
    }

    private static void grammarOfClauses() {
        fault(inState("on @{}"));
        fault(inState("on @on{}"));
        fault(inState("on p@;"));
        fault(inState("on p(@){}"));
        fault(inState("on p(@1){}"));
        fault(inState("on p(@now){}"));
        fault(inState("on p(x@{}"));
        fault(inState("on p(x@,y){}"));
        fault(inState("on p(x)@(y){}"));
        fault(inState("first @;"));
        fault(inState("save @;"));
        fault(inState("save p@{}"));
        fault(inState("save p@(x);"));
        fault(inState("any @p{}"));
        fault(inState("any@;"));
        fault(inState("when @x{}"));
        fault(inState("when(@){}"));
        fault(inState("when(x)@;"));
        fault(inState("@p{}"));
        fault(inState("@;"));
        fault(inState("on p{}@;"));
        fault(inState("@let x=1;"));
        fault(inState("@send m to out;"));
        fault(inState("@to p{}"));
    }

    private static void grammarOfActs() {
        fault(inBlock("@;"));
        fault(inBlock("@{}"));
        fault(inBlock("@to;"));
        fault(inBlock("@else{}"));
        fault(inBlock("@5;"));
        fault(inBlock("@on p{}"));
        fault(inBlock("@now=1;"));
        fault(inBlock("x@;"));
        fault(inBlock("x=@;"));
        fault(inBlock("x@==1;"));
        fault(inBlock("x=1@}"));
        fault(inBlock("send @to out;"));
        fault(inBlock("send m@;"));
        fault(inBlock("send m(@)to out;"));
        fault(inBlock("send m(x @to out;"));
        fault(inBlock("send m to @;"));
        fault(inBlock("send m to @now;"));
        fault(inBlock("send m to @5;"));
        fault(inBlock("send m to out@,"));
        fault(inBlock("set @5;"));
        fault(inBlock("set t@;"));
        fault(inBlock("set t @=5;"));
        fault(inBlock("reset @;"));
        fault(inBlock("reset t @5;"));
        fault(inBlock("make @self;"));
        fault(inBlock("make a@(1);"));
        fault(inBlock("next @;"));
        fault(inBlock("next s@}"));
        fault(inBlock("stop @x;"));
        fault(inBlock("say @;"));
        fault(inBlock("say x @y;"));
        fault(inBlock("if @x{}"));
        fault(inBlock("if(@){}"));
        fault(inBlock("if(x)@stop;"));
        fault(inBlock("if(x){}else @stop;"));
        fault(inBlock("if(x){}else{}@else{}"));
        fault(inBlock("if(x){}@;"));
        fault("process a(1){start{@");
        fault("process a(1){start{stop;@");
        fault("process a(1){start{send m(1)to@");
    }

    private static void grammarOfExpressions() {
        stands(1, ofSay("1"));
        stands(1, ofSay("- - x"));
        stands(1, ofSay("1--1"));
        stands(1, ofSay("(1<2)==(3<4)"));
        fault(ofSay("1<2@<3"));
        fault(ofSay("1==2@==3"));
        fault(ofSay("1<2@==3"));
        fault(ofSay("x@>y"));
        fault(ofSay("@*x"));
        fault(ofSay("@+x"));
        fault(ofSay("x+@+y"));
        fault(ofSay("x*@;"));
        fault(ofSay("x-@)"));
        fault(ofSay("(x@;"));
        fault(ofSay("@out"));
        fault(ofSay("x@:y"));
        fault(ofSay("x@,y"));
        fault(ofSay("@{x}"));
    }

    private static void doubles() {
        fault("process a(1){start{}}process @a(1){start{}}");
        fault("process a(1){let x=1;let @x=2;start{}}");
        stands(2, "process a(1){let x=1;start{}}process b(1){let x=2;start{}}");
        fault("process a(1){start{}state s{}state @s{}}");
        stands(2, "process a(1){start{}state s{}}process b(1){start{}state s{}}");
        stands(1, "process a(1){let a=1;start{}state a{on a(a){}}}");
        fault(inState("on p{}on @p{}"));
        fault(inState("on p{}first @p{}"));
        fault(inState("save p;on @p{}"));
        fault(inState("first p{}save @p;"));
        fault(inState("save p;save @p;"));
        fault(inState("any{}@any{}"));
        stands(1, inState("when(x){}when(x){}"));
        stands(1, "process a(1){start{}state s{on p{}any{}}state t{on p{}any{}}}");
    }

    private static void tooMuch() {
        StringBuilder processes = new StringBuilder();
        StringBuilder variables = new StringBuilder();
        StringBuilder states = new StringBuilder();
        StringBuilder clauses = new StringBuilder();
        for (int i = 0; i < 6; i++) {
            processes.append("process p").append(i).append("(0){start{}}");
            variables.append("let v").append(i).append("=0;");
        }
        for (int i = 0; i < 8; i++) {
            states.append("state s").append(i).append("{}");
            clauses.append("on c").append(i).append("{}");
        }
        stands(6, processes.toString());
        fault(processes + "process @p6(0){start{}}");
        fault(processes + "process @p6(0){let x=1;let x=1;start{}}");
        stands(1, "process a(1){" + variables + "start{}}");
        fault("process a(1){" + variables + "let @w=0;start{}}");
        fault("process a(1){" + variables + "let @w=0;let w1=0;start{}}");
        stands(1, "process a(1){start{}" + states + "}");
        fault("process a(1){start{}" + states + "state @t{}}");
        fault("process a(1){start{}" + states + "state @t{on a{}on a{}}state u{}}");
        stands(1, inState(clauses.toString()));
        fault(inState(clauses + "@on d{}"));
        fault(inState(clauses + "@on c0{}"));
        fault(inState(clauses + "@save d;"));
        fault(inState(clauses + "@any{}any{}"));
        fault(inState(clauses + "@when(x){}"));
    }

    private static void unknown() {
        fault(inBlock("@z=1;"));
        fault(inBlock("x=@z;"));
        fault(ofSay("x+y*@z"));
        fault(inState("on p(@z){}"));
        fault(inState("first p(@z){}"));
        fault(inState("when(@z){}"));
        fault(inBlock("set t @z;"));
        fault(inBlock("send m(@z)to out;"));
        fault(inBlock("if(@z){}"));
        fault(inBlock("next @t;"));
        fault(inBlock("make @b;"));
        fault(inBlock("send m to @b;"));
        stands(1, inBlock("set t 5;reset u;send m to out;"));
        stands(2, inBlock("make b;send m to b;") + "process b(0){start{}}");
        fault("process a(1){let x=1;start{}}process b(1){start{say @x;}}");
        fault("process a(1){start{next @t;}}process b(1){start{}state t{}}");
        stands(1, "process a(1){start{next t;}state s{}state t{}}");
    }

    private static void orderOfFaults() {
        // Grammar is first, wherever it stands.
        fault("process a(1){let x=1;let x=1;start{z=1;}}@,");
        fault("process a(1){let x=1;let x=1;start{z=1;@");
        // Then what is there already or too much, in the order of the text.
        fault("process a(1){start{z=1;}state s{on p{}on @p{next q;}}state s{}}");
        fault("process a(1){start{make q;}}process @a(1){start{}}");
        // Then unknown names of all kinds, in the order of the text.
        fault("process a(1){start{make @q;next r;z=1;}}");
        fault("process a(1){start{next @r;z=1;make q;}}");
        fault("process a(1){start{@z=w;make q;next r;}}");
        fault("process a(1){start{}state s{on p(@z){make q;}}}");
        fault("process a(1){start{make @q;}state s{on p(z){}}}");
        fault("process a(1){let x=1;start{x=@z;}state s{when(w){}}}");
    }

    private static void nesting() {
        stands(1, ofSay("((((((( 1 )))))))"));
        fault(ofSay("(((((((@( 1 ))))))))"));
        stands(1, ofSay("------- 1"));
        fault(ofSay("-------@- 1"));
        stands(1, ofSay("-(-(-(- 1)))"));
        fault(ofSay("-(-(-(-@( 1))))"));
        stands(1, ofSay("(((((((1)))))))+(((((((1)))))))"));
        stands(1, ofSay("1-1-1-1-1-1-1-1-1-1-1-1"));
        stands(1, "process a(1){start{if(1){if(1){if(1){if(1){if(1){if(1){if(1){stop;}}}}}}}}}");
        fault("process a(1){start{if(1){if(1){if(1){if(1){if(1){if(1){if(1){if@(1){}}}}}}}}}}");
        stands(1, "process a(1){start{if(1){if(1){if(1){if(1){if(1){if(1){if(1){say 1;}}}}}}}}}");
        fault("process a(1){start{if(1){if(1){if(1){if(1){if(1){if(1){if(1){say @(1);}}}}}}}}}");
        fault("process a(1){start{if(1){if(1){if(1){if(1){if(1){if(1){if(1){say @-1;}}}}}}}}}");
        fault("process a(1){start{if(1){if(1){if(1){if(1){if(1){if(1){if(1){send m@(1)to out;}}}}}}}}}");
        stands(1, inState("when(((((((( 1 )))))))){}"));
        fault(inState("when((((((((@( 1 ))))))))){}"));
        stands(1, inState("when(1){if(1){}}"));
    }

    private static void whatWasStays() {
        ChartHouse x = Checks.begun("process a(2){let v=7;start{next s;}state s{}}");
        x.run(2);
        Checks.outside(x, 1, "sig", 4);
        x.time(5);
        int events = x.count(6);
        checks.due("a fault", -14, () -> Checks.system(x, "process b(1){x"));
        checks.due("a fault", -9, () -> Checks.system(x, "process 5(1){x"));
        checks.due("a fault of a name", -20, () -> Checks.system(x, "process b(0){start{x=1;}}"));
        checks.due("processes", 1, () -> x.count(2));
        checks.due("instances", 2, () -> x.count(3));
        checks.due("now", 5, () -> x.count(5));
        checks.due("events", events, () -> x.count(6));
        checks.due("state", 0, () -> x.look(1, 1));
        checks.due("variable", 7, () -> Checks.variable(x, 0, "v"));
        checks.same("queue", "sig(4)-1", Checks.queue(x, 1));
        checks.same("event", "4 0 a -1", Checks.event(x, 0));
        checks.due("another", 2, () -> Checks.system(x, "process c(1){start{}}process d(1){start{}}"));
        checks.due("it has begun", 2, () -> x.count(3));
        checks.due("now", 0, () -> x.count(5));
        checks.due("nobody has run", -1, () -> x.look(0, 1));
        checks.same("events", "4 0 c -1 | 4 1 d -1", Checks.events(x, 0));
        checks.due("an empty one", 0, () -> Checks.system(x, ""));
        checks.due("instances", 0, () -> x.count(3));
        checks.due("begin", 0, () -> x.begin());
    }
}
