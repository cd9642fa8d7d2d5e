/** Promise 4: the tape is the program; how many statements it has, or - 10 less its FAULT; the RUN is gone. */
public final class Promise04ProgramTest {
    public static void main(String[] args) {
        Desk.held("4 program: how many statements it has", Promise04ProgramTest::statements);
        Desk.held("4 program: none, and 120 statements", Promise04ProgramTest::fewestAndMost);
        Desk.held("4 program: the tape is empty then", Promise04ProgramTest::tapeIsEmpty);
        Desk.held("4 program: an empty tape, and a full one", Promise04ProgramTest::emptyAndFull);
        Desk.held("4 program: - 10 less its FAULT", Promise04ProgramTest::lessItsFault);
        Desk.held("4 program: with a FAULT there is no program then", Promise04ProgramTest::noProgramThen);
        Desk.held("4 program: a right one again, with nothing of those before", Promise04ProgramTest::rightAgain);
        Desk.held("4 program: nothing is left of a text that ends or goes wrong anywhere", Promise04ProgramTest::nothingIsLeft);
        Desk.held("4 program: the RUN is gone", Promise04ProgramTest::runIsGone);
        Desk.held("4 program: nodes, arcs and their numbers stay", Promise04ProgramTest::graphStays);
        Desk.close();
    }

    private static void statements() {
        Desk.right(1, "start { halt ; } round { }");
        Desk.right(2, "start { } round { halt ; halt ; }");
        Desk.right(6, "start { loop 3 { halt ; } } round { if true { halt ; } else { halt ; halt ; } }");
        Desk.right(2, "start { if true { } } round { if false { } else { } }");
        Desk.right(4, "node a:int=-5;node b:bool=false;start{a=1;b=!b;let c=a;c=c+1;}round{}");
        Desk.right(3, "column w;fold f:sum;global g:most;start{send f arc.w along;send f 1 against;give g 3;}round{}");
        Desk.right(2, "start { loop 0 { } } round { loop 100 { } }");
        Desk.right(2, "start { let x = if ( true , 1 , 2 ) ; if if ( true , true , false ) { } } round { }");
        Desk.right(5, "start{let a=1==1;let b=1<=1;let c=1--1;let d=!!true;let e=a&&!b||c!=-c;}round{}");
        Desk.right(1, "start { let a = 5 - - 5 * - draw ( - 1 + 2 ) % id ; } round { }");
        Desk.right(2, "start { if ( true ) { } if ( true ) == ( false ) { } } round { }");
    }

    private static void fewestAndMost() {
        Desk.right(0, "start{}round{}");
        Desk.right(0, "column a ; node b : int = 0 ; fold c : sum ; global d : sum ; start { } round { }");
        Desk.right(119, "start { " + Desk.times(119, "halt ; ") + "} round { }");
        Desk.right(120, "start { " + Desk.times(120, "halt ; ") + "} round { }");
        Desk.right(120, "start { } round { " + Desk.times(120, "halt ; ") + "}");
        Desk.right(120, "start { " + Desk.times(60, "halt ; ") + "} round { " + Desk.times(60, "halt ; ") + "}");
        Desk.right(120, "start { loop 1 { " + Desk.times(118, "halt ; ") + "} } round { if true { } }");
        Desk.faulty(2, "start { " + Desk.times(120, "halt ; ") + "@halt ; } round { }");
    }

    private static void tapeIsEmpty() {
        for (String text : new String[] {"start { } round { }", "start { } round {", "start { x = 1 ; } round { }", ""}) {
            Desk desk = new Desk();
            desk.load(text);
            Desk.due("end(0) behind program() of " + text, desk.x.end(0), Desk.BAD);
            Desk.due("feed() behind program() of " + text, desk.x.feed(0, 0, 0, 0, 0), 20);
        }
        Desk desk = new Desk();
        Desk.due("the first", desk.load("start { halt ; } round { }"), 1);
        Desk.due("the second, of its own text alone", desk.load("start { } round { halt ; halt ; }"), 2);
    }

    private static void emptyAndFull() {
        Desk.faulty(1, "@");
        Desk desk = Desk.with("start { } round { }");
        Desk.due("program() of the empty tape behind a right one", desk.x.program(), -11);
        Desk.due("print(-1) then", desk.x.print(-1), Desk.BAD);
        String text = "start { halt ; } round { }";
        Desk.right(1, text + " ".repeat(4000 - text.length()));
        Desk.right(1, "\n".repeat(4000 - text.length()) + text);
        Desk.right(1, text + "#".repeat(4000 - text.length()));
        Desk.faulty(1, text + " ".repeat(3999 - text.length()) + "@;");
    }

    private static void lessItsFault() {
        String[] texts = {"start { } round", "start { loop 101 { } } round { }", "column a ; column a ; start { } round { }",
            "start { a = 1 ; } round { }", "start { if 1 { } } round { }"};
        for (int fault = 1; fault <= 5; fault++) {
            Desk.due("program() of " + texts[fault - 1], new Desk().load(texts[fault - 1]), -10 - fault);
        }
    }

    private static void noProgramThen() {
        for (String text : new String[] {"start { } round", "start { loop 101 { } } round { }", "start { if 1 { } } round { }",
            "column a ; column a ; start { } round { }", "start { a = 1 ; } round { }"}) {
            Desk desk = Desk.with("column a ; node b : int = 1 ; fold c : sum ; global d : sum ; start { halt ; } round { }");
            desk.load(text);
            Desk.due("print(-1) behind " + text, desk.x.print(-1), Desk.BAD);
            Desk.due("print(0) behind " + text, desk.x.print(0), Desk.BAD);
            Desk.due("name() behind " + text, desk.find("a"), Desk.BAD);
            Desk.due("begin(1) behind " + text, desk.x.begin(1), Desk.BAD);
            Desk.due("run(1) behind " + text, desk.x.run(1), Desk.BAD);
            for (int what = 0; what <= 4; what++) {
                Desk.due("count(" + what + ") behind " + text, desk.x.count(what), 0);
            }
        }
    }

    private static void rightAgain() {
        Desk desk = Desk.with("column a ; node b : int = 7 ; start { b = 1 / 0 ; } round { halt ; halt ; }");
        desk.load("start { a = 1 ; } round { }");
        Desk.due("a right one again", desk.load("fold a : sum ; start { } round { halt ; }"), 1);
        Desk.due("fault(0)", desk.x.fault(0), Desk.NONE);
        Desk.due("printed", desk.printed(), "fold a : sum ; start { } round { halt ; }");
        Desk.due("name() of a", desk.find("a"), 200);
        Desk.due("name() of b", desk.find("b"), Desk.NONE);
        Desk.due("begin(1)", desk.x.begin(1), 1);
        Desk.due("run(5)", desk.x.run(5), 2);
        Desk.due("told(9): the halt alone", desk.x.told(9), 1);
        desk = new Desk();
        for (int i = 0; i < 12; i++) {
            desk.load("node v : int = " + i + " ; start { v = v" + " + 1".repeat(80) + " ; } round { v = v - 1 ; }");
            desk.x.begin(0);
            Desk.due("v at first, program " + i, desk.x.state(0, 0), i);
            Desk.due("run(3), program " + i, desk.x.run(3), 3);
            Desk.due("v, program " + i, desk.x.state(0, 0), i + 78);
        }
    }

    /** A text is broken off at each of its bytes, or has a byte there that is no TOKEN; the next is read as by a new object. */
    private static void nothingIsLeft() {
        String text = "column w;node n:int=4;fold f:some;global g:most;start{let a=!(n==-draw(9));loop 3{if a{let b=1;}else{"
            + "send f(arc.w>if(has f,n,2))||a along;give g(n+1)*2;}}}round{n=n%3;halt;}";
        Desk.right(8, text);
        String wrong = "column w;node n:int=4;fold f:sum;start{send f 1 along;n=1+arc.w;}round{}";
        String right = "fold w:least;node b:int=-7;start{let a=b-(id);send w(a)against;b=draw(a+90);}round{b=w;halt;}";
        Desk fresh = Desk.with(right, 2, 0, 1);
        fresh.x.begin(5);
        fresh.x.run(1);
        String due = fresh.printed() + fresh.everything();
        for (int i = 0; i < text.length(); i++) {
            for (String behind : new String[] {"", "?", "}", ")", "+"}) {
                Desk desk = new Desk();
                desk.load(text.substring(0, i) + behind);
                Desk.due("program() of " + wrong, desk.load(wrong), -14);
                Desk.due("fault(0)", desk.x.fault(0), wrong.indexOf("w;}round"));
                desk.load(text.substring(0, i) + behind);
                Desk.due("program() of " + right, desk.load(right), 5);
                desk.x.nodes(2);
                desk.x.arc(0, 1);
                desk.x.begin(5);
                desk.x.run(1);
                Desk.due("all of it behind " + text.substring(0, i) + behind, desk.printed() + desk.everything(), due);
            }
        }
    }

    private static void runIsGone() {
        for (String text : new String[] {"node a : int = 3 ; start { } round { }", "start { } round {", ""}) {
            Desk desk = Desk.begun("node a : int = 3 ; fold f : least ; global g : all ; start { } round { }", 2);
            Desk.due("run(2)", desk.x.run(2), 2);
            desk.load(text);
            Desk.due("told(0) behind " + text, desk.x.told(0), Desk.BAD);
            Desk.due("run(1) behind " + text, desk.x.run(1), Desk.BAD);
            Desk.due("undo() behind " + text, desk.x.undo(), Desk.BAD);
            Desk.due("state(0, 0) behind " + text, desk.x.state(0, 0), 0);
            Desk.due("message(0, 0) behind " + text, desk.x.message(0, 0), 0);
            Desk.due("messages(0, 0) behind " + text, desk.x.messages(0, 0), Desk.BAD);
            Desk.due("global(0) behind " + text, desk.x.global(0), 0);
            Desk.due("halted(0) behind " + text, desk.x.halted(0), Desk.BAD);
        }
    }

    private static void graphStays() {
        Desk desk = Desk.with("start { } round { }", 7, 0, 6, 6, 6);
        desk.x.weight(1, 3, -9);
        desk.load("start { } round { halt ; }");
        Desk.due("count(5) behind a right one", desk.x.count(5), 7);
        Desk.due("count(6) behind a right one", desk.x.count(6), 2);
        desk.load("start { } round {");
        Desk.due("count(5) behind a wrong one", desk.x.count(5), 7);
        Desk.due("count(6) behind a wrong one", desk.x.count(6), 2);
        Desk.due("weight(1, 3, 0)", desk.x.weight(1, 3, 0), -9);
    }
}
