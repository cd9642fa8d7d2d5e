/** Promise 15: what is told of the RUN, from 0 (the TURN that comes next) to 9 (STEPS of the last TURN that was done). */
public final class Promise15ToldTest {
    public static void main(String[] args) {
        Desk.held("15 told: all ten, from begin() to a FAILURE", Promise15ToldTest::allTen);
        Desk.held("15 told: BAD: another number", Promise15ToldTest::anotherNumber);
        Desk.held("15 told: BAD: no RUN", Promise15ToldTest::noRun);
        Desk.held("15 told 0: the TURN that comes next", Promise15ToldTest::comesNext);
        Desk.held("15 told 1: whether it has ENDED", Promise15ToldTest::ended);
        Desk.held("15 told 2: messages under way, none and many", Promise15ToldTest::underWay);
        Desk.held("15 told 3: nodes that have halted, from none to forty", Promise15ToldTest::halted);
        Desk.held("15 told 4 .. 7: 0 where there is no FAILURE", Promise15ToldTest::noFailure);
        Desk.held("15 told 4 .. 7: the latest FAILURE since begin()", Promise15ToldTest::latestFailure);
        Desk.held("15 told 4 .. 7: undo() and TURNS that are done leave it, begin() does not", Promise15ToldTest::failureStays);
        Desk.held("15 told 6: the place of /, %, draw", Promise15ToldTest::placeOfTheToken);
        Desk.held("15 told 6: of FAILURE 3 the first TOKEN of the statement", Promise15ToldTest::placeOfTheStatement);
        Desk.held("15 told 8: TURNS that can be undone, 0 .. 6", Promise15ToldTest::canBeUndone);
        Desk.held("15 told 9: STEPS of the last TURN that was done, all nodes together", Promise15ToldTest::steps);
        Desk.held("15 told 9: a TURN that is undone was done all the same", Promise15ToldTest::stepsOfTheUndone);
        Desk.held("15 told 9: a TURN that failed was not done", Promise15ToldTest::stepsOfTheFailed);
        Desk.close();
    }

    private static void allTen() {
        String text = "fold f : sum ; fold h : all ; start { send f id along ; send h true against ; "
            + "if id > 0 { halt ; } } round { if turn == 3 { let a = 1 % ( id - 1 ) ; } }";
        Desk desk = Desk.begun(text, 3, 0, 1, 0, 1, 2, 2);
        String[] rows = {"0 0 0 0 0 0 0 0 0 0", "1 0 6 2 0 0 0 0 1 32", "2 0 0 0 0 0 0 0 2 12", "3 0 0 0 0 0 0 0 3 12"};
        for (int turn = 0; turn < rows.length; turn++) {
            Desk.due("told ahead of turn " + turn, desk.told(0, 1, 2, 3, 4, 5, 6, 7, 8, 9), rows[turn]);
            Desk.due("run(1)", desk.x.run(1), turn == 3 ? Desk.FAILED : 1);
        }
        Desk.due("told behind the FAILURE", desk.told(0, 1, 2, 3, 4, 5, 6, 7, 8, 9),
            "3 0 0 0 1 1 " + text.indexOf('%') + " 3 3 12");
    }

    private static void anotherNumber() {
        Desk desk = Desk.begun("start { } round { }", 1);
        for (int what : new int[] {-1, 10, 11, 100, Desk.LEAST, Desk.GREATEST}) {
            Desk.due("told(" + what + ")", desk.x.told(what), Desk.BAD);
        }
        desk = new Desk();
        Desk.due("told(10) without a RUN", desk.x.told(10), Desk.BAD);
        Desk.due("told(-1) without a RUN", desk.x.told(-1), Desk.BAD);
    }

    private static void allBad(String when, Desk desk) {
        Desk.due(when, desk.told(0, 1, 2, 3, 4, 5, 6, 7, 8, 9), "-1 -1 -1 -1 -1 -1 -1 -1 -1 -1");
    }

    private static void noRun() {
        Desk desk = new Desk();
        allBad("a new object", desk);
        desk.load("start { let a = 1 / 0 ; } round { }");
        allBad("without begin()", desk);
        desk.x.begin(1);
        desk.x.run(1);
        desk.x.nodes(1);
        allBad("behind nodes()", desk);
        desk.x.begin(1);
        desk.x.arc(0, 0);
        allBad("behind arc()", desk);
        desk.x.begin(1);
        desk.load("start { } round { }");
        allBad("behind program()", desk);
        desk.x.begin(1);
        desk.load("start { } round {");
        allBad("behind a wrong program()", desk);
    }

    private static void comesNext() {
        Desk desk = Desk.begun("start { } round { if turn == 102 { halt ; } }", 1);
        Desk.due("told(0)", desk.x.told(0), 0);
        desk.x.run(100);
        Desk.due("told(0)", desk.x.told(0), 100);
        desk.x.run(100);
        Desk.due("told(0) at the end", desk.x.told(0), 103);
        desk.x.run(100);
        Desk.due("told(0) behind the end", desk.x.told(0), 103);
        desk.x.undo();
        Desk.due("told(0) behind undo()", desk.x.told(0), 102);
    }

    private static void ended() {
        Desk desk = Desk.begun("fold f : sum ; start { halt ; } round { if turn == 1 { send f 1 along ; } halt ; }", 1, 0, 0);
        Desk.due("told(1) ahead of all", desk.x.told(1), 0);
        desk.x.run(1);
        Desk.due("told(1) of one that has halted", desk.x.told(1), 1);
        desk = Desk.begun("fold f : sum ; start { send f 1 along ; halt ; } round { if turn < 3 { send f 1 along ; } halt ; }", 1, 0, 0);
        for (int turn = 0; turn < 4; turn++) {
            Desk.due("told(1) ahead of turn " + turn, desk.x.told(1), 0);
            desk.x.run(1);
        }
        Desk.due("told(1) without messages", desk.x.told(1), 1);
    }

    private static void underWay() {
        Desk desk = Desk.with("fold a : sum ; fold b : least ; fold c : some ; fold d : all ; start { loop 4 { send a 1 along ; "
            + "send b 1 along ; send c true against ; } send d false along ; } round { }", 40);
        for (int i = 0; i < 120; i++) {
            desk.x.arc(i % 40, i / 3);
        }
        desk.x.begin(0);
        Desk.due("told(2) ahead of all", desk.x.told(2), 0);
        Desk.due("run(1)", desk.x.run(1), 1);
        Desk.due("told(2) of 120 arcs", desk.x.told(2), 120 * 13);
        desk.x.run(1);
        Desk.due("told(2) a turn later", desk.x.told(2), 0);
        desk.x.undo();
        Desk.due("told(2) behind undo()", desk.x.told(2), 120 * 13);
    }

    private static void halted() {
        Desk desk = Desk.begun("start { if id == 0 { halt ; } } round { if id <= turn * 13 { halt ; } }", 40);
        int[] want = {0, 1, 14, 27, 40};
        for (int turn = 0; turn < want.length; turn++) {
            Desk.due("told(3) ahead of turn " + turn, desk.x.told(3), want[turn]);
            desk.x.run(1);
        }
        Desk.due("told(1)", desk.x.told(1), 1);
    }

    private static void noFailure() {
        Desk desk = Desk.begun("start { } round { }", 2);
        Desk.due("ahead of all", desk.told(4, 5, 6, 7), "0 0 0 0");
        desk.x.run(5);
        Desk.due("behind five TURNS", desk.told(4, 5, 6, 7), "0 0 0 0");
        desk.x.undo();
        Desk.due("behind undo()", desk.told(4, 5, 6, 7), "0 0 0 0");
    }

    private static void latestFailure() {
        // the arc's number decides whether, and how, node 1 fails
        String text = "column w ; fold f : sum ; start { } round { if id == 1 { send f 6 / arc . w + draw ( arc . w ) along ; } }";
        Desk desk = Desk.with(text, 2, 1, 0);
        desk.x.begin(0);
        desk.x.weight(0, 0, 1);
        desk.x.run(2);
        desk.x.weight(0, 0, 0);
        Desk.due("run(1) divided by 0", desk.x.run(1), Desk.FAILED);
        Desk.due("told(4 .. 7)", desk.told(4, 5, 6, 7), "1 1 " + text.indexOf('/') + " 2");
        desk.x.weight(0, 0, 2);
        Desk.due("run(2)", desk.x.run(2), 2);
        desk.x.weight(0, 0, -1);
        Desk.due("run(1) with draw of - 1", desk.x.run(1), Desk.FAILED);
        Desk.due("told(4 .. 7)", desk.told(4, 5, 6, 7), "2 1 " + text.indexOf("draw") + " 4");
        desk.x.weight(0, 0, 0);
        desk.x.undo();
        Desk.due("run(1) divided by 0, earlier", desk.x.run(1), Desk.FAILED);
        Desk.due("told(4 .. 7)", desk.told(4, 5, 6, 7), "1 1 " + text.indexOf('/') + " 3");
    }

    private static void failureStays() {
        Desk desk = Desk.begun("node v : int = 0 ; start { } round { v = 6 / ( 2 - turn ) ; }", 3);
        desk.x.run(9);
        String failure = desk.told(4, 5, 6, 7);
        Desk.due("told(4 .. 7)", failure, "1 0 43 2");
        desk.x.undo();
        Desk.due("behind undo()", desk.told(4, 5, 6, 7), failure);
        desk.x.undo();
        Desk.due("behind undo() of all", desk.told(4, 5, 6, 7), failure);
        desk.x.undo();
        Desk.due("behind undo() of none", desk.told(4, 5, 6, 7), failure);
        Desk.due("run(1)", desk.x.run(1), 1);
        Desk.due("behind a TURN that is done", desk.told(4, 5, 6, 7), failure);
        desk.x.run(0);
        desk.x.weight(0, 0, 0);
        Desk.due("behind refused calls", desk.told(4, 5, 6, 7), failure);
        desk.x.begin(0);
        Desk.due("behind begin()", desk.told(4, 5, 6, 7), "0 0 0 0");
        desk = Desk.begun("start { } round { if turn == 4 { let x = draw ( 2 - id ) ; } }", 3);
        desk.x.run(9);
        Desk.due("of node 2 in TURN 4", desk.told(4, 5, 6, 7), "2 2 41 4");
        desk.x.begin(0);
        Desk.due("of node 2, behind begin()", desk.told(4, 5, 6, 7), "0 0 0 0");
    }

    /** The first TURN fails at the @. */
    private static void place(int failure, String marked, int... ends) {
        int place = marked.indexOf('@');
        String text = marked.substring(0, place) + marked.substring(place + 1);
        Desk desk = Desk.begun(text, 2, ends);
        Desk.due("run(1) of " + text, desk.x.run(1), Desk.FAILED);
        Desk.due("told(4, 6) of " + text, desk.told(4, 6), failure + " " + place);
    }

    private static void placeOfTheToken() {
        place(1, "start{let a=1@/0;}round{}");
        place(1, "start{let a=1@%0;}round{}");
        place(2, "start{let a=@draw(0);}round{}");
        place(1, "\n\n# a / b % draw ( 0 )\nstart { let a = 8 / 4 \n@/\n( 1 - 1 ) ; } round { }");
        place(1, "start { let a = ( ( 1 + 2 ) @% ( 3 - 3 ) ) ; } round { }");
        place(2, "start { let a = 1 - - @draw ( ( 1 - 1 ) ) ; } round { }");
        place(2, "start { if @draw ( - 5 ) == 1 { } } round { }");
        place(1, "fold f : sum ; start { send f 1 @/ 0 along ; } round { }", 0, 1);
        place(1, "start { loop 5 { if true { } else { } let x = 1 @% 0 ; } } round { }");
    }

    private static void placeOfTheStatement() {
        // 8 STEPS of a let with four ones, 1 of a loop 0: 10 a repeat
        String nine = "let x = 1 + 1 + 1 + 1 ; loop 0 { } ";
        // a statement that is begun as the 1,001st: 1 + 99 * 10 + 9 are done ahead of it
        for (String statement : new String[] {"halt ;", "v = 1 ;", "let y = 1 ;", "send f 1 along ;", "give g 1 ;", "if true { }",
            "loop 5 { }"}) {
            place(3, "node v : int = 0 ; fold f : sum ; global g : sum ; start { loop 99 { " + nine + "} " + nine + "@" + statement
                + " } round { }");
        }
        // the last of a repeat is the 1,001st
        place(3, "start { loop 100 { let x = 1 + 1 + 1 + 1 ; @loop 0 { } } } round { }");
        place(3, "start { loop 100 { loop 0 { } @let x = 1 + 1 + 1 + 1 ; } } round { }");
        place(3, "start { loop 100 { loop 0 { } @if 1 + 1 + 1 == 3 { } } } round { }");
        place(3, "global g : sum ; start { loop 100 { loop 0 { } @give g 1 + 1 + 1 + 1 ; } } round { }");
        place(3, "fold f : sum ; start { loop 100 { @send f 1 + 1 + 1 + 1 along ; } } round { }", 0, 1);
        // a repeat is the 1,001st: the loop's, though other statements were begun since
        place(3, "start { " + nine.replace("x", "z") + "@loop 100 { " + nine + "} } round { }");
        place(3, "start { " + nine.replace("x", "z") + "@loop 100 { if true { let x = 1 + 1 + 1 + 1 ; } } } round { }");
        place(3, "start { loop 100 { @loop 100 { } } } round { }");
        // an arc of a send is the 1,001st
        place(3, "fold f : sum ; start { loop 99 { " + nine + "} let y = 1 + 1 + 1 + 1 ; @send f 1 along ; } round { }", 0, 1);
        // the innermost statement, not those around it
        place(3, "start { loop 100 { loop 100 { @let a = 1 ; } } } round { }");
        place(3, "start { loop 100 { if 1 + 1 == 2 { @if 1 + 1 + 1 + 1 == 4 { } } } } round { }");
        place(3, "start { loop 100 { if false { } else { @let x = 1 + 1 + 1 + 1 ; } } } round { }");
    }

    private static void canBeUndone() {
        Desk desk = Desk.begun("start { } round { }", 1);
        for (int turn = 0; turn < 9; turn++) {
            Desk.due("told(8) ahead of turn " + turn, desk.x.told(8), Math.min(turn, 6));
            desk.x.run(1);
        }
        desk.x.run(100);
        for (int left = 6; left >= 0; left--) {
            Desk.due("told(8)", desk.x.told(8), left);
            desk.x.undo();
        }
        Desk.due("told(8) behind a refused undo()", desk.x.told(8), 0);
        desk.x.run(2);
        Desk.due("told(8)", desk.x.told(8), 2);
        desk.x.begin(0);
        Desk.due("told(8) behind begin()", desk.x.told(8), 0);
    }

    private static void steps() {
        Desk desk = Desk.begun("node v : int = 0 ; start { v = id + 1 ; if id > 0 { halt ; } } round { v = v + 1 ; "
            + "if turn == 2 { halt ; } }", 3);
        int[] want = {0, 3 * 8 + 2, 8, 9};
        for (int turn = 0; turn < want.length; turn++) {
            Desk.due("told(9) ahead of turn " + turn, desk.x.told(9), want[turn]);
            desk.x.run(1);
        }
        Desk.due("told(1)", desk.x.told(1), 1);
        Desk.due("run(1) does none", desk.x.run(1), 0);
        Desk.due("told(9) where none was done", desk.x.told(9), 9);
        desk.x.run(0);
        Desk.due("told(9) behind a refused run()", desk.x.told(9), 9);
        // a TURN without a STEP
        desk = Desk.begun("start { halt ; } round { }", 2);
        desk.x.run(1);
        Desk.due("told(9) of two halts", desk.x.told(9), 2);
        desk = Desk.begun("start { let a = 1 ; } round { }", 40);
        desk.x.run(1);
        Desk.due("told(9) of forty", desk.x.told(9), 80);
        desk.x.run(1);
        Desk.due("told(9) of an empty round", desk.x.told(9), 0);
        desk.x.begin(5);
        Desk.due("told(9) behind begin()", desk.x.told(9), 0);
    }

    private static void stepsOfTheUndone() {
        Desk desk = Desk.begun("node v : int = 0 ; start { v = id + 1 ; } round { v = v + 1 ; if turn == 2 { halt ; } }", 2);
        desk.x.run(1);
        Desk.due("told(9) of TURN 0", desk.x.told(9), 8);
        Desk.due("undo()", desk.x.undo(), 0);
        Desk.due("told(9) of TURN 0, undone", desk.x.told(9), 8);
        Desk.due("undo() of none", desk.x.undo(), Desk.NONE);
        Desk.due("told(9) behind a refused undo()", desk.x.told(9), 8);
        desk.x.run(2);
        Desk.due("told(9) of TURN 1", desk.x.told(9), 16);
        desk.x.run(1);
        Desk.due("told(9) of TURN 2", desk.x.told(9), 18);
        desk.x.undo();
        desk.x.undo();
        Desk.due("told(9) of TURN 2, undone with the one before", desk.x.told(9), 18);
        desk.x.run(1);
        Desk.due("told(9) of TURN 1, done again", desk.x.told(9), 16);
    }

    private static void stepsOfTheFailed() {
        Desk desk = Desk.begun("node v : int = 0 ; start { } round { v = 6 / ( 2 - turn ) ; }", 1);
        Desk.due("run(9)", desk.x.run(9), Desk.FAILED);
        Desk.due("told(9) behind a FAILURE", desk.x.told(9), 6);
        desk.x.undo();
        desk.x.undo();
        Desk.due("told(9) of TURN 1, undone", desk.x.told(9), 6);
        Desk.due("run(1)", desk.x.run(1), 1);
        Desk.due("told(9) of TURN 0", desk.x.told(9), 0);
    }
}
