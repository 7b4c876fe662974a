/**
 * The boundary cases of texts: TOKENS, SYSTEM and its FAULTS, promise 4.
 * In a text, @ stands ahead of the byte where the fault is due.
 */
public final class BoundaryTextTest {
    private static final Checks checks = new Checks();
    private static final String WORDS = "process let start state on first save when any send to set reset make next stop say if else"
        + " sender self parent child out now";
    private static final String SIX = Checks.numbered(6, "process p#(0){start{}}");

    public static void main(String[] args) {
        blanks();
        bytesOfNames();
        bytesOfNumbers();
        lengthOfNames();
        namesTellApart();
        words();
        numbers();
        numbersThatWrap();
        signs();
        empty();
        onceAtMost();
        howMany();
        somethingLacks();
        firstThatCantStand();
        thereAlready();
        onePerPlaceOnly();
        processesTooMuch();
        variablesTooMuch();
        statesTooMuch();
        clausesTooMuch();
        allThatThereMayBe();
        oneTooMuchInTheLast();
        notThere();
        orderOfFaults();
        bracketsWithin();
        blocksWithin();
        signsWithin();
        mixedWithin();
        besideOneAnother();
        fullTape();
        manyNames();
        oneBehindTheOther();
        whatWasStays();
        checks.finish();
    }

    private static void stands(int processes, String text) {
        checks.due("stands: " + text, processes, () -> Checks.system(new ChartHouse(), text));
    }

    private static void fault(String marked) {
        int place = marked.indexOf('@');
        String text = marked.replace("@", "");
        checks.due("fault: " + marked, -1 - place, () -> Checks.system(new ChartHouse(), text));
    }

    private static String inState(String clauses) {
        return "process a(1){let x=0;let y=1;start{next s;}state s{" + clauses + "}}";
    }

    private static String inBlock(String acts) {
        return inState("on go{" + acts + "}");
    }

    private static String ofSay(String expression) {
        return inBlock("say " + expression + ";");
    }

    private static boolean isLetter(int c) {
        return c >= 'a' && c <= 'z' || c >= 'A' && c <= 'Z';
    }

    private static boolean isDigit(int c) {
        return c >= '0' && c <= '9';
    }

    private static void blanks() {
        checks.sentence(4, "blanks (10, 32) between where one likes");
        for (int c = 0; c < 256; c++) {
            String text = "process" + (char) c + "a(0){start{}}";
            int due = c == 10 || c == 32 ? 1 : isLetter(c) || isDigit(c) ? -1 : -8;
            checks.due("byte " + c + " behind process", due, () -> Checks.system(new ChartHouse(), text));
        }
        stands(1, " \n process \n a \n ( \n 0 \n ) \n { \n start \n { \n } \n } \n ");
        stands(1, "process a(0){let x=0;start{next s;}state s{on m(x){send m(x)to out;}}}");
        // Not within a TOKEN.
        fault("@pro cess a(0){start{}}");
        fault("process a(0){let x=1 @2;start{}}");
        fault(ofSay("1@= =1"));
    }

    private static void bytesOfNames() {
        checks.sentence(4, "NAME: letters, then letters and digits");
        for (int c = 0; c < 256; c++) {
            String text = "process a" + (char) c + "(0){start{}}";
            boolean fine = isLetter(c) || isDigit(c) || c == 10 || c == 32;
            int due = fine ? 1 : c == '(' ? -11 : -10;
            checks.due("byte " + c + " behind a letter", due, () -> Checks.system(new ChartHouse(), text));
            String first = "process " + (char) c + "(0){start{}}";
            int blank = c == 10 || c == 32 ? -10 : -9;
            checks.due("byte " + c + " as a NAME", isLetter(c) ? 1 : blank, () -> Checks.system(new ChartHouse(), first));
        }
        checks.sentence(6, "a NAME (other: UnsupportedOperationException)");
        ChartHouse x = Checks.begun("process a(1){start{next s;}state s{any{}}}");
        x.turn(0);
        for (int c = 32; c < 128; c++) {
            String text = Character.toString((char) c);
            String due = isLetter(c) ? "1" : "throws.UnsupportedOperationException";
            checks.same("byte " + c, due, Checks.answerOf(() -> Checks.outside(x, 0, text, 0)));
            x.turn(0);
        }
    }

    private static void bytesOfNumbers() {
        checks.sentence(4, "NUMBER: digits");
        for (int c = 0; c < 256; c++) {
            String text = "process a(" + (char) c + "){start{}}";
            int due = c >= '0' && c <= '3' ? 1 : c == 10 || c == 32 ? -12 : -11;
            checks.due("byte " + c + " as a NUMBER", due, () -> Checks.system(new ChartHouse(), text));
            String behind = "process a(0){let x=5" + (char) c + ";start{}}";
            int wrong = c == ';' ? -22 : -21;
            boolean fine = isDigit(c) || c == 10 || c == 32;
            checks.due("byte " + c + " behind a digit", fine ? 1 : wrong, () -> Checks.system(new ChartHouse(), behind));
        }
    }

    private static void lengthOfNames() {
        checks.sentence(4, "NAME: .. at most 12 bytes");
        String twelve = "abcdefghijkl";
        stands(1, "process a(0){start{}}");
        stands(1, "process abcdefghijk(0){start{}}");
        stands(1, "process " + twelve + "(0){start{}}");
        stands(1, "process a12345678901(0){start{}}");
        fault("process @abcdefghijklm(0){start{}}");
        fault("process @a123456789012(0){start{}}");
        fault("process @" + Checks.times(1900, "a") + "(0){start{}}");
        stands(1, "process a(0){let " + twelve + "=0;start{" + twelve + "=" + twelve + ";}}");
        fault("process a(0){let @" + twelve + "m=0;start{}}");
        fault("process a(0){let " + twelve + "=0;start{@" + twelve + "m=0;}}");
        stands(1, "process a(0){start{next " + twelve + ";}state " + twelve + "{}}");
        fault("process a(0){start{}state @" + twelve + "9{}}");
        stands(1, inState("on " + twelve + "{}save " + twelve.toUpperCase() + ";"));
        fault(inState("on @" + twelve + "9{}"));
        stands(1, inBlock("set " + twelve + " 5;reset " + twelve + ";send " + twelve + " to out;"));
        fault(inBlock("set @" + twelve + "m 5;"));
        fault(inBlock("send @" + twelve + "m to out;"));
        // Behind a digit a NAME begins anew.
        fault("process a(0){let x=1@abcdefghijklm;start{}}");
    }

    private static void namesTellApart() {
        checks.sentence(4, "a NAME that is there already (all of its 12 bytes count)");
        for (int i = 0; i < 12; i++) {
            char[] other = "abcdefghijkl".toCharArray();
            other[i] = 'Z';
            stands(2, "process abcdefghijkl(0){start{}}process " + new String(other) + "(0){start{}}");
        }
        fault("process abcdefghijkl(0){start{}}process @abcdefghijkl(0){start{}}");
        stands(2, "process abcdefghijkl(0){start{}}process abcdefghijk(0){start{}}");
        stands(2, "process abcdefgh(0){start{}}process abcdefghi(0){start{}}");
        stands(2, "process a(0){start{}}process A(0){start{}}");
    }

    private static void words() {
        checks.sentence(4, "WORDS: process let .. now (a WORD is no NAME)");
        for (String word : WORDS.split(" ")) {
            fault("process @" + word + "(0){start{}}");
            fault("process a(0){let @" + word + "=0;start{}}");
            fault("process a(0){start{}state @" + word + "{}}");
            fault(inState("save @" + word + ";"));
            fault(inBlock("reset @" + word + ";"));
            stands(1, "process " + word + "x(0){start{}}");
            stands(1, "process " + word + "1(0){start{}}");
            stands(1, "process x" + word + "(0){start{}}");
            stands(1, "process " + word.toUpperCase() + "(0){start{}}");
            stands(1, "process " + word.substring(0, word.length() - 1) + "(0){start{}}");
        }
    }

    private static void numbers() {
        checks.sentence(4, "NUMBER: digits, at most 1000000");
        stands(1, "process a(0){let x=0;start{}}");
        stands(1, "process a(0){let x=999999;start{}}");
        stands(1, "process a(0){let x=1000000;start{}}");
        fault("process a(0){let x=@1000001;start{}}");
        fault("process a(0){let x=@1000010;start{}}");
        fault("process a(0){let x=@9999999;start{}}");
        stands(1, "process a(0){let x=" + Checks.times(1900, "0") + "1000000;start{}}");
        fault("process a(0){let x=@" + Checks.times(1900, "0") + "1000001;start{}}");
        stands(1, ofSay("1000000"));
        fault(ofSay("@1000001"));
        fault(ofSay("1000000+@1000001"));
        stands(1, inBlock("set t 1000000;"));
        fault(inBlock("set t @1000001;"));
        checks.due("it is what it is", 1000000, () -> Checks.variable(
            Checks.begun("process a(1){let x=01000000;start{}}"), 0, "x"));
    }

    private static void numbersThatWrap() {
        checks.sentence(4, "NUMBER: digits, at most 1000000 (what is larger does not wrap around)");
        String[] large = {"2147483647", "2147483648", "4294967295", "4294967296", "4294967297", "42949672960", "9223372036854775808",
            "18446744073709551616", "18446744073709551617", "10000000000000000000000000000000000", Checks.times(1900, "9"),
            "1" + Checks.times(1900, "0")};
        for (String digits : large) {
            fault("process a(0){let x=@" + digits + ";start{}}");
            fault("process a(@" + digits + "){start{}}");
        }
    }

    private static void signs() {
        checks.sentence(4, "SIGNS .. (the longest)");
        stands(1, ofSay("x==y"));
        fault(ofSay("x@= =y"));
        fault(ofSay("x==@=y"));
        fault(inBlock("x@==1;"));
        fault("process a(0){let x@==1;start{}}");
        checks.sentence(4, "Anything else can't stand");
        for (String other : new String[] {"!", "\"", "#", "$", "%", "&", "'", ".", "/", "?", "[", "\\", "]", "^", "_", "`", "|", "~",
            "\u0000", "\t", "\u000b", "\r", "\u001f", "\u007f", "\u0080", "\u00a0", "\u00e4", "\u00ff"}) {
            fault(ofSay("x@" + other + "y"));
            fault("@" + other);
            fault("process a(0){start{}}@" + other);
        }
        for (String sign : ", > :".split(" ")) {
            fault(ofSay("x@" + sign + "y"));
        }
    }

    private static void empty() {
        checks.sentence(4, "SYSTEM: {PROCESS} (none)");
        stands(0, "");
        stands(0, " ");
        stands(0, "\n");
        stands(0, Checks.times(2000, " "));
        checks.sentence(4, "{let NAME = NUMBER ;}, {STATE}, {CLAUSE}, {ACT} (none)");
        stands(1, "process a(0){start{}}");
        stands(1, "process a(0){start{}state s{}}");
        stands(1, "process a(0){start{}state s{on m{}}}");
        stands(1, inBlock("if(x){}else{}"));
    }

    private static void onceAtMost() {
        checks.sentence(4, "EXPR: SUM [== SUM] or SUM [< SUM] (once at most)");
        stands(1, ofSay("1"));
        stands(1, ofSay("1==2"));
        stands(1, ofSay("1<2"));
        stands(1, ofSay("(1<2)<(3==4)"));
        fault(ofSay("1<2@<3"));
        fault(ofSay("1==2@==3"));
        fault(ofSay("1<2@==3"));
        fault(ofSay("1==2@<3"));
        checks.sentence(4, "on NAME [( NAME )], send NAME [( EXPR )], [else BLOCK] (once at most)");
        stands(1, inState("on m{}on n(x){}first k{}first l(x){}"));
        fault(inState("on m(x)@(y){}"));
        fault(inState("on m(@){}"));
        fault(inState("on m(x@,y){}"));
        fault(inState("save m@(x);"));
        fault(inState("any@(x){}"));
        stands(1, inBlock("send m to out;send m(x)to out;if(x){}if(x){}else{}"));
        fault(inBlock("send m(x)@(y)to out;"));
        fault(inBlock("send m(@)to out;"));
        fault(inBlock("if(x){}else{}@else{}"));
        fault(inBlock("@else{}"));
        checks.sentence(4, "start BLOCK (once, behind the VARIABLES and ahead of the STATES)");
        fault("process a(0){@}");
        fault("process a(0){@state s{}}");
        fault("process a(0){let x=0;@}");
        fault("process a(0){start{}@start{}}");
        fault("process a(0){start{}state s{}@start{}}");
        fault("process a(0){start{}@let x=0;}");
        fault("process a(0){start{}state s{}@let x=0;}");
    }

    private static void howMany() {
        checks.sentence(4, "NUMBER 0 .. 3: how many there are at first");
        for (int many = 0; many <= 3; many++) {
            int due = many;
            stands(1, "process a(" + many + "){start{}}");
            stands(1, "process a(00" + many + "){start{}}");
            checks.due("there are " + many, due, () -> Checks.begun("process a(" + due + "){start{}}").count(3));
        }
        fault("process a(@4){start{}}");
        fault("process a(@004){start{}}");
        fault("process a(@10){start{}}");
        fault("process a(@1000000){start{}}");
        fault("process a(@-1){start{}}");
        // It is a fault of grammar: ahead of what is there already.
        fault("process a(1){let x=1;let x=1;start{}}process b(@4){start{}}");
    }

    private static void somethingLacks() {
        checks.sentence(4, "the length, if something lacks");
        String whole = "process a ( 1 ) { let x = 3 ; let y = 4 ; start { next s ; } state s { on m ( x ) { x = - ( x + 2 ) * 3 ; }"
            + " first n { send m ( x ) to a ; send m to out ; } save k ; any { set t now + 1 ; reset t ; make a ; }"
            + " when ( x == 1 ) { say x ; if ( x < 1 ) { stop ; } else { } } } state r { } }";
        stands(1, whole);
        for (int i = whole.indexOf(' '); i >= 0; i = whole.indexOf(' ', i + 1)) {
            fault(whole.substring(0, i) + "@");
            fault(whole.substring(0, i) + " \n @");
        }
        fault(whole + " process@");
        fault(whole + " process b(0){start{} @");
        // A process that is whole is one: nothing lacks between two.
        stands(2, whole + "process b(0){start{}}");
    }

    private static void firstThatCantStand() {
        checks.sentence(4, "first the first TOKEN (its first byte ..) that can't stand there by grammar");
        fault("@abc");
        fault("@1000000");
        fault("process a(0){start{}@==");
        fault("process a(0){start{}}   @stop   process");
        fault("process a(0){start{@==}}#");
        fault("process a(0){start{@now=1;}}1000001");
        fault("process a(0){start{}}@abcdefghijklmn");
        fault("process a(0){start{stop @start}}");
    }

    private static void thereAlready() {
        checks.sentence(4, "a NAME that is there already (PROCESSES; VARIABLES of a PROCESS; its STATES; a SIGNAL in one STATE ..; any)");
        fault("process a(0){start{}}process b(0){start{}}process @a(0){start{}}");
        fault("process a(0){let x=1;let y=1;let @x=2;start{}}");
        fault("process a(0){start{}state s{}state t{}state @s{}}");
        String[] kinds = {"on m{}", "first m{}", "save m;"};
        for (String one : kinds) {
            for (String other : kinds) {
                fault(inState(one + other.replace("m", "@m")));
                fault(inState(one + "on n{}any{}" + other.replace("m", "@m")));
                stands(1, inState(one + other.replace("m", "n")));
            }
        }
        fault(inState("any{}@any{}"));
        fault(inState("any{}on m{}@any{}"));
        fault(inState("on m(x){}on @m{}"));
    }

    private static void onePerPlaceOnly() {
        checks.sentence(4, "a NAME that is there already (elsewhere it may stand again)");
        stands(2, "process a(0){let x=1;start{}state s{on m{}any{}}}process b(0){let x=1;start{}state s{on m{}any{}}}");
        stands(1, "process a(0){start{}state s{on m{}any{}}state t{on m{}any{}}state u{save m;}state v{first m{}}}");
        stands(1, "process a(0){let a=1;start{next a;}state a{on a(a){send a(a)to a;set a a;reset a;make a;next a;}}}");
        stands(1, inState("when(x){}when(x){}when(x){}"));
        stands(1, inBlock("set t 1;set t 1;send t to out;send t to out;x=1;x=1;"));
    }

    private static void processesTooMuch() {
        checks.sentence(4, "one too much (6 PROCESSES ..: its NAME)");
        stands(6, SIX);
        fault(SIX + "process @p6(0){start{}}");
        fault(SIX + "process @p0(0){start{}}");
        fault(SIX + "process @p6(0){let x=1;let x=1;start{}}process p7(0){start{}}");
        stands(5, Checks.numbered(5, "process p#(0){start{}}"));
        stands(6, SIX.replace("(0)", "(3)"));
    }

    private static void variablesTooMuch() {
        checks.sentence(4, "one too much (.. 6 VARIABLES .. of a PROCESS: its NAME)");
        String six = Checks.numbered(6, "let v#=#;");
        stands(1, "process a(0){" + six + "start{}}");
        fault("process a(0){" + six + "let @w=0;start{}}");
        fault("process a(0){" + six + "let @v0=0;start{}}");
        fault("process a(0){" + six + "let @w=0;let w=0;start{}}");
        stands(2, "process a(0){" + six + "start{}}process b(0){" + six + "start{}}");
        fault("process a(0){" + six + "start{}}process b(0){" + six + "let @w=0;start{}}");
        ChartHouse x = Checks.begun("process a(1){" + six + "start{}}");
        for (int i = 0; i < 6; i++) {
            int due = i;
            checks.due("VARIABLE " + i, due, () -> Checks.variable(x, 0, "v" + due));
        }
    }

    private static void statesTooMuch() {
        checks.sentence(4, "one too much (.. 8 STATES of a PROCESS: its NAME)");
        String eight = Checks.numbered(8, "state s#{}");
        stands(1, "process a(0){start{}" + eight + "}");
        fault("process a(0){start{}" + eight + "state @t{}}");
        fault("process a(0){start{}" + eight + "state @s7{}}");
        fault("process a(0){start{}" + eight + "state @t{on m{}on m{}}state u{}}");
        stands(2, "process a(0){start{}" + eight + "}process b(0){start{}" + eight + "}");
        fault("process a(0){start{}" + eight + "}process b(0){start{}" + eight + "state @t{}}");
        ChartHouse x = Checks.begun("process a(1){start{next s7;}" + eight + "}");
        x.turn(0);
        checks.due("the eighth", 7, () -> x.look(0, 1));
    }

    private static void clausesTooMuch() {
        checks.sentence(4, "one too much (.. 8 CLAUSES of a STATE: its first TOKEN)");
        String eight = Checks.numbered(8, "on m#{}");
        stands(1, inState(eight));
        for (String ninth : new String[] {"on n{}", "first n{}", "save n;", "any{}", "when(x){}", "on m0{}", "on n(z){}"}) {
            fault(inState(eight + "@" + ninth));
        }
        fault(inState(eight.replace("on m3{}", "any{}") + "@any{}"));
        fault(inState(Checks.times(8, "when(x){}") + "@when(x){}"));
        fault(inState(Checks.numbered(8, "save m#;") + "@save n;"));
        fault(inState(Checks.numbered(8, "first m#{}") + "@first n{}on n{}"));
        stands(1, inState(Checks.numbered(7, "on m#{}") + "any{}"));
        stands(1, "process a(0){start{}state s{" + eight + "}state t{" + eight + "}}");
        fault("process a(0){start{}state s{" + eight + "}state t{" + eight + "@any{}}}");
    }

    private static void allThatThereMayBe() {
        checks.sentence(4, "6 PROCESSES, 6 VARIABLES, 8 STATES .., 8 CLAUSES (the last of each is as good as the first)");
        String five = Checks.numbered(5, "process p#(0){start{}}");
        String last = "process p5(1){" + Checks.numbered(6, "let v#=#;") + "start{next s7;}" + Checks.numbered(7, "state s#{}")
            + "state s7{" + Checks.numbered(6, "on m#{}") + "on m7(v5){say v5;}when(v5==-9){v5=-8;}}}";
        ChartHouse x = Checks.begun(five + last);
        x.turn(0);
        checks.due("the when CLAUSE is not true yet", 0, () -> x.turn(0));
        checks.due("PROCESS", 5, () -> x.look(0, 0));
        checks.due("STATE", 7, () -> x.look(0, 1));
        checks.due("VARIABLE", 5, () -> Checks.variable(x, 0, "v5"));
        Checks.outside(x, 0, "m7", -9);
        checks.due("CLAUSE", 3, () -> x.turn(0));
        checks.due("VARIABLE", -9, () -> Checks.variable(x, 0, "v5"));
        checks.due("the one beside it", 4, () -> Checks.variable(x, 0, "v4"));
        checks.due("the when CLAUSE", 6, () -> x.turn(0));
        checks.due("it is true no more", 0, () -> x.turn(0));
        stands(6, Checks.numbered(6, "process p#(3){" + "let a=1;let b=1;let c=1;let d=1;let e=1;let f=1;start{}"
            + "state a{}state b{}state c{}state d{}state e{}state f{}state g{}state h{}}"));
        StringBuilder states = new StringBuilder();
        for (char state = 'a'; state <= 'h'; state++) {
            states.append("state ").append(state).append("{on a{}on b{}on c{}on d{}first e{}save f;any{}when(1){}}");
        }
        stands(1, "process a(3){start{}" + states + "}");
    }

    private static void oneTooMuchInTheLast() {
        checks.sentence(4, "one too much (.. 6 VARIABLES, 8 STATES .., 8 CLAUSES ..) (in the last PROCESS, in its last STATE)");
        String five = Checks.numbered(5, "process p#(0){start{}}");
        String six = Checks.numbered(6, "let v#=0;");
        String eight = Checks.numbered(8, "state s#{}");
        fault(five + "process p5(0){" + six + "let @v6=0;let v7=0;start{}}");
        fault(five + "process p5(0){start{}" + eight + "state @s8{on m{}}state s9{on m{}}}");
        fault(five + "process p5(0){start{}" + Checks.numbered(7, "state s#{}") + "state s7{" + Checks.numbered(8, "on m#{}") + "@on m8{}on m9{}}}");
        fault(five + "process p5(0){" + six + "start{}" + eight + "}process @p6(0){" + six + "let v6=0;start{}" + eight + "state s8{any{}}}");
    }

    private static void notThere() {
        checks.sentence(4, "NAMES of VARIABLES, STATES and PROCESSES that are not there: there");
        fault(inBlock("@z=1;"));
        fault(inState("on m(@z){}"));
        fault(inState("first m(@z){}"));
        fault(inState("when(@z){}"));
        for (String act : new String[] {"x=@z;", "send m(@z)to out;", "set t @z;", "say @z;", "if(@z){}", "say x+@z;", "say x*@z;",
            "say x-@z;", "say x==@z;", "say x<@z;", "say -@z;", "say (@z);", "if(x){say @z;}", "if(x){}else{say @z;}"}) {
            fault(inBlock(act));
        }
        fault(inBlock("next @z;"));
        fault(inBlock("make @z;"));
        fault(inBlock("send m to @z;"));
        // What is there is there by its kind: a STATE is no VARIABLE, a PROCESS no STATE, a VARIABLE no PROCESS.
        fault(inBlock("@s=1;"));
        fault(inBlock("next @a;"));
        fault(inBlock("make @x;"));
        fault(inBlock("send m to @go;"));
        // And of its own PROCESS.
        fault("process a(0){let x=1;start{}state s{}}process b(0){start{say @x;}}");
        fault("process a(0){start{say @x;}}process b(0){let x=1;start{}}");
        fault("process a(0){start{}state s{}}process b(0){start{next @s;}}");
        fault("process a(0){start{}state s{on m(@x){}}}process b(0){let x=1;start{}}");
        // It may stand behind its use; SIGNALS and TIMERS need no place of their own.
        stands(2, "process a(0){start{make b;send m to b;next t;}state s{}state t{}}process b(0){start{}}");
        stands(1, inBlock("set t 1;reset u;send v to out;"));
    }

    private static void orderOfFaults() {
        checks.sentence(4, "first .. grammar; then, in the order of the text, .. there already .. or one too much ..; then .. not there");
        fault("process a(0){let x=1;let x=1;start{z=1;}}@;");
        fault(SIX + "process p6(0){start{z=1;}}@,");
        fault("process a(0){start{z=1;next s;make q;}@");
        fault("process a(0){start{z=1;}}process @a(0){start{}}");
        fault("process a(0){start{next q;}state s{}state @s{}}");
        fault(inBlock("z=1;") + SIX.substring(22) + "process @p6(0){start{}}");
        fault("process a(0){let x=1;let @x=1;start{}state s{}state s{}}process a(0){start{}}");
        fault("process a(0){start{}state s{any{}@any{}}state s{}}");
        fault("process a(0){start{}state s{" + Checks.numbered(8, "on m#{}") + "@on m0{}}state s{}}");
        fault("process a(0){start{@z=w;next q;make r;}}");
        fault("process a(0){start{make @r;next q;z=w;}}");
        fault("process a(0){start{next @q;make r;z=w;}}");
        fault("process a(0){start{send m(@z)to q;}}");
        fault("process a(0){start{next @q;}state s{on m(z){}}}");
        fault("process a(0){start{}state s{on m(@z){next q;}}}");
    }

    private static String nested(int many, String open, String inner, String close) {
        return Checks.times(many, open) + inner + Checks.times(many, close);
    }

    private static void bracketsWithin() {
        checks.sentence(4, "At most 8 .. ( around an EXPR .. within one another, the first TOKEN of the 9th can't stand");
        stands(1, inState("when" + nested(8, "(", "1", ")") + "{}"));
        fault(inState("when" + nested(8, "(", "@(1)", ")") + "{}"));
        stands(1, ofSay(nested(7, "(", "1", ")")));
        fault(ofSay(nested(7, "(", "@(1)", ")")));
        fault(ofSay("1+2*" + nested(7, "(", "x==@(1)", ")")));
        for (String around : new String[] {"x=E;", "set t E;", "say E;", "send m E to out;", "if E{}"}) {
            stands(1, inBlock(around.replace("E", nested(7, "(", "1", ")"))));
            fault(inBlock(around.replace("E", nested(7, "(", "@(1)", ")"))));
        }
        fault("process a(0){start{say " + nested(7, "(", "@(1)", ")") + ";}}");
        fault(ofSay(nested(7, "(", "@(", "")));
    }

    private static void blocksWithin() {
        checks.sentence(4, "At most 8 BLOCKS .. within one another, the first TOKEN of the 9th can't stand");
        stands(1, "process a(0){start{" + nested(7, "if(1){", "", "}") + "}}");
        stands(1, "process a(0){start{" + nested(7, "if(1){", "stop;", "}") + "}}");
        stands(1, "process a(0){start{" + nested(7, "if(1){}else{", "say 1;", "}") + "}}");
        stands(1, inState("when(1){" + nested(7, "if(1){", "say 1;", "}") + "}"));
        stands(1, inState("any{" + nested(7, "if(1){", "say 1;", "}") + "}"));
        // The ninth thing within one another is the ( of the if whose BLOCK would be the ninth BLOCK.
        fault("process a(0){start{" + nested(7, "if(1){", "if@(1){}", "}") + "}}");
        fault("process a(0){start{" + nested(7, "if(1){}else{", "if@(1){}", "}") + "}}");
        fault(inState("first m{" + nested(7, "if(1){", "if@(1){}", "}") + "}"));
        fault(inState("when(1){" + nested(7, "if(1){", "if@(1){}", "}") + "}"));
    }

    private static void signsWithin() {
        checks.sentence(4, "At most 8 .. - (as a sign of one part) within one another, the first TOKEN of the 9th can't stand");
        stands(1, ofSay(Checks.times(7, "-") + "1"));
        fault(ofSay(Checks.times(7, "-") + "@-1"));
        fault(ofSay("1-" + Checks.times(7, "-") + "@-1"));
        stands(1, ofSay("1-" + Checks.times(7, "-") + "1"));
        stands(1, inState("when(" + Checks.times(7, "-") + "1){}"));
        fault(inState("when(" + Checks.times(7, "-") + "@-1){}"));
        stands(1, ofSay(Checks.times(30, "1-") + "1"));
    }

    private static void mixedWithin() {
        checks.sentence(4, "At most 8 BLOCKS, ( .. and - .. within one another (all together)");
        String six = nested(6, "if(1){", "ACT", "}");
        String seven = nested(7, "if(1){", "ACT", "}");
        for (String one : new String[] {"say (1);", "say -1;", "x=(1);", "x=-1;", "set t -1;", "send m(1)to out;", "if(1){}"}) {
            stands(1, inBlock(six.replace("ACT", one)));
            fault(inBlock(seven.replace("ACT", one.replaceFirst("([(-])", "@$1"))));
        }
        for (String two : new String[] {"say ((1));", "say --1;", "say (-1);", "say -(1);", "send m(-1)to out;", "send m((1))to out;",
            "if(-1){}", "if((1)){}"}) {
            stands(1, inBlock(nested(5, "if(1){", two, "}")));
            fault(inBlock(six.replace("ACT", two.replaceFirst("([(-])([(-])", "$1@$2"))));
        }
        stands(1, ofSay("-(-(-(-1)))"));
        fault(ofSay("-(-(-(-@(1))))"));
        fault(ofSay("(-(-(-(@-1))))"));
        stands(1, inBlock(seven.replace("ACT", "x=1;send m to out;set t x;say 1-x;next s;")));
    }

    private static void besideOneAnother() {
        checks.sentence(4, "At most 8 .. within one another (beside one another there may be more)");
        stands(1, ofSay(nested(7, "(", "1", ")") + "+" + nested(7, "(", "1", ")") + "*" + nested(7, "(", "1", ")")));
        stands(1, ofSay(Checks.times(7, "-") + "1-" + Checks.times(7, "-") + "1"));
        stands(1, inBlock(Checks.times(30, "if(1){}")));
        stands(1, inBlock("if(1){" + Checks.times(10, "if(1){}else{}") + "}else{" + nested(6, "if(1){", "say 1;", "}") + "}"));
        stands(1, inBlock("if" + nested(7, "(", "1", ")") + nested(1, "{", nested(6, "if(1){", "say 1;", "}"), "}")));
        stands(1, inState("when" + nested(8, "(", "1", ")") + "{" + nested(7, "if(1){", "say 1;", "}") + "}on m{say 1;}"));
    }

    private static void fullTape() {
        checks.sentence(4, "THE TAPE has at most 2000 bytes (a SYSTEM may fill it)");
        String text = "process a(1){start{next s;}state s{on go{say 0";
        String end = ";}}}";
        int room = 2000 - text.length() - end.length();
        String full = text + Checks.times(room / 2, "+1") + (room % 2 == 1 ? " " : "") + end;
        checks.due("its length", 2000, () -> full.length());
        ChartHouse x = Checks.begun(full);
        x.turn(0);
        Checks.outside(x, 0, "go", 0);
        x.turn(0);
        checks.due("all of it is done", room / 2, () -> x.event(3, 2));
        String names = "process a(1){start{next s;}state s{on go{";
        StringBuilder many = new StringBuilder(names);
        for (int i = 0; many.length() + 14 <= 2000; i++) {
            many.append("reset a").append(i).append(';');
        }
        many.append("}}}");
        ChartHouse y = Checks.begun(many.toString());
        y.turn(0);
        checks.due("and the TAPE comes again", 1, () -> Checks.outside(y, 0, "go", 0));
        checks.due("INPUT", 3, () -> y.turn(0));
        fault(Checks.times(1999, " ") + "@#");
        fault("process" + Checks.times(1993, " ") + "@");
    }

    private static void manyNames() {
        checks.sentence(4, "THE TAPE has at most 2000 bytes (with as many NAMES as there can be, again and again)");
        ChartHouse x = new ChartHouse();
        String letters = "abcdefghijklmnopqrstuvwxyzABCDEFGHIJKLMNOPQRSTUVWXYZ";
        for (int text = 0; text < 4; text++) {
            StringBuilder names = new StringBuilder();
            for (int i = 0; i < 666; i++) {
                int name = text * 666 + i;
                names.append(letters.charAt(name / 52)).append(letters.charAt(name % 52)).append(' ');
            }
            checks.due("NAMES are no SYSTEM", -1, () -> Checks.system(x, names.toString()));
        }
        checks.due("a SYSTEM behind them", 1, () -> Checks.system(x, "process yes(1){let v=3;start{next s;}state s{on sig(v){say v;}}}"));
        x.turn(0);
        checks.due("a NAME from OUTSIDE", 1, () -> Checks.outside(x, 0, "sig", 8));
        checks.due("INPUT", 3, () -> x.turn(0));
        checks.due("the VARIABLE", 8, () -> Checks.variable(x, 0, "v"));
        checks.same("TRACE", "4 0 yes -1 | 0 -1 sig 8 | 1 0 sig 8 | 7 0  8", Checks.events(x, 0));
    }

    private static void oneBehindTheOther() {
        checks.sentence(4, "THE TAPE is the SYSTEM, and it begins (as begin) (nothing is left of what was before)");
        String full = Checks.numbered(5, "process p#(3){let a=1;let b=2;let c=3;let d=4;let e=5;let f=6;start{next s0;}"
            + "state s0{on m{say 1;}first n{say 2;}any{say 3;}when(1){say 4;}}state s1{}state s2{}state s3{}}")
            + "process p5(1){start{next s0;}state s0{on m{}on n{}on k{}on a{}on b{}on c{}when(1){}any{}}}";
        ChartHouse x = new ChartHouse();
        for (int i = 0; i < 2; i++) {
            checks.due("6 PROCESSES", 6, () -> Checks.system(x, full));
            checks.due("6 PROCESSES", 6, () -> Checks.system(x, full));
            checks.due("8 INSTANCES", 8, () -> x.count(3));
            checks.due("a FAULT between", -1, () -> Checks.system(x, "#" + full));
            checks.due("1 PROCESS", 1, () -> Checks.system(x, "process p0(1){start{next s0;}state s0{}}"));
            checks.due("1 INSTANCE", 1, () -> x.count(3));
            checks.due("START", 1, () -> x.turn(0));
            checks.due("no when CLAUSE", 0, () -> x.turn(0));
            Checks.outside(x, 0, "n", 0);
            checks.due("no first CLAUSE", 5, () -> x.turn(0));
            Checks.outside(x, 0, "m", 0);
            checks.due("no on CLAUSE, no any", 5, () -> x.turn(0));
            checks.refused("no VARIABLE", UnsupportedOperationException.class, () -> Checks.variable(x, 0, "a"));
            checks.refused("one PROCESS", IllegalArgumentException.class, () -> x.walk(3, 1, 0));
            checks.due("begin", 1, () -> x.begin());
        }
        checks.due("a PROCESS that was is not there", -26, () -> Checks.system(x, "process p0(1){start{make p1;}}"));
        checks.due("a STATE that was is not there", -26, () -> Checks.system(x, "process p0(1){start{next s1;}}"));
        checks.due("a VARIABLE that was is not there", -25, () -> Checks.system(x, "process p0(1){start{say a;}}"));
        ChartHouse y = new ChartHouse();
        for (int i = 0; i < 4; i++) {
            String text = "process a(1){let v=" + i + ";start{say v;next s;}state s{on m" + i + "{say 1;}" + (i % 2 == 0 ? "any{say 2;}" : "") + "}}";
            checks.due("1 PROCESS", 1, () -> Checks.system(y, text));
            y.turn(0);
            checks.same("what it says", "4 0 a -1 | 7 0  " + i, Checks.events(y, 0));
            for (int k = 0; k < 4; k++) {
                int due = k == i ? 3 : i % 2 == 0 ? 4 : 5;
                Checks.outside(y, 0, "m" + k, 0);
                checks.due("m" + k + " in SYSTEM " + i, due, () -> y.turn(0));
            }
        }
    }

    private static void whatWasStays() {
        checks.sentence(4, "a FAULT: -1 - PLACE (what was stays)");
        for (String bad : new String[] {"#", "process", "process b(0){start{}}process b(0){start{}}", "process b(0){start{next q;}}"}) {
            ChartHouse x = Checks.begun("process a(2){let v=7;start{set t 9;next s;}state s{save sig;}}");
            x.run(2);
            Checks.outside(x, 1, "sig", 4);
            x.time(5);
            checks.same("a FAULT", "true", "" + (Checks.system(x, bad) < 0));
            checks.due("PROCESSES", 1, () -> x.count(2));
            checks.due("INSTANCES", 2, () -> x.count(3));
            checks.due("NOW", 5, () -> x.count(5));
            checks.due("TIMERS", 2, () -> x.count(8));
            checks.due("STATE", 0, () -> x.look(1, 1));
            checks.due("VARIABLE", 7, () -> Checks.variable(x, 0, "v"));
            checks.same("QUEUE", "sig(4)-1", Checks.queue(x, 1));
            checks.same("TRACE", "4 0 a -1 | 4 1 a -1 | 0 -1 sig 4", Checks.events(x, 0));
            checks.due("it can begin anew", 2, () -> x.begin());
            checks.due("and start", 1, () -> x.turn(1));
        }
        ChartHouse y = new ChartHouse();
        checks.due("the least PLACE", -1, () -> Checks.system(y, "#"));
        checks.due("the largest PLACE", -2001, () -> Checks.system(y, "process" + Checks.times(1993, " ")));
    }
}
