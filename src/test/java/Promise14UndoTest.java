/** Promise 14: the last TURN is undone: the TURN that comes next then; the last six can be. */
public final class Promise14UndoTest {
    private static final String BUSY = "node v : int = 3 ; node b : bool = false ; fold f : sum ; global g : most ; start { "
        + "send f id + draw ( 100 ) along ; } round { v = v * 3 + f + draw ( 50 ) ; b = ! b ; give g v ; "
        + "if v % 2 == 0 { send f v along ; halt ; } send f 1 against ; }";

    public static void main(String[] args) {
        Desk.held("14 undo: the TURN that comes next then", Promise14UndoTest::comesNext);
        Desk.held("14 undo: TURNS that were done can be undone, the last 6", Promise14UndoTest::lastSix);
        Desk.held("14 undo: fewer than six, just six, and seven that were done", Promise14UndoTest::aroundSix);
        Desk.held("14 undo: NONE: none that is kept; all stays", Promise14UndoTest::none);
        Desk.held("14 undo: BAD: no RUN", Promise14UndoTest::noRun);
        Desk.held("14 undo: all is as it was before the TURN", Promise14UndoTest::allComesBack);
        Desk.held("14 undo: what is done again comes out the same", Promise14UndoTest::doneAgain);
        Desk.held("14 undo: undone and done in turns, far on", Promise14UndoTest::backAndForth);
        Desk.held("14 undo: 'start' is done again behind TURN 0 undone", Promise14UndoTest::startAgain);
        Desk.held("14 undo: a RUN that has ENDED", Promise14UndoTest::behindTheEnd);
        Desk.held("14 undo: a TURN that failed was not done", Promise14UndoTest::failedTurn);
        Desk.held("14 undo: graph, program, numbers of arcs and tape stay", Promise14UndoTest::allElseStays);
        Desk.close();
    }

    private static void comesNext() {
        Desk desk = Desk.begun("start { } round { }", 1);
        desk.x.run(3);
        Desk.due("undo()", desk.x.undo(), 2);
        Desk.due("told(0)", desk.x.told(0), 2);
        Desk.due("undo()", desk.x.undo(), 1);
        Desk.due("undo()", desk.x.undo(), 0);
        Desk.due("told(0)", desk.x.told(0), 0);
    }

    private static void lastSix() {
        Desk desk = Desk.begun("node v : int = 0 ; start { } round { v = v + turn ; }", 2);
        desk.x.run(10);
        Desk.due("told(8)", desk.x.told(8), 6);
        for (int turn = 9; turn >= 4; turn--) {
            Desk.due("undo()", desk.x.undo(), turn);
            Desk.due("told(0)", desk.x.told(0), turn);
            Desk.due("told(8)", desk.x.told(8), turn - 4);
            Desk.due("v", desk.column(0), turn * (turn - 1) / 2 + " " + turn * (turn - 1) / 2);
        }
        Desk.due("the seventh", desk.x.undo(), Desk.NONE);
        Desk.due("told(0) stays", desk.x.told(0), 4);
    }

    private static void aroundSix() {
        for (int done : new int[] {1, 5, 6, 7, 8, 9, 100}) {
            Desk desk = Desk.begun("node v : int = 0 ; start { v = 1 ; } round { v = v + 1 ; }", 1);
            desk.x.run(done);
            int kept = Math.min(done, 6);
            Desk.due("told(8) of " + done, desk.x.told(8), kept);
            for (int i = 1; i <= kept; i++) {
                Desk.due("undo() of " + done, desk.x.undo(), done - i);
                Desk.due("v", desk.x.state(0, 0), done - i);
            }
            Desk.due("undo() beyond", desk.x.undo(), Desk.NONE);
            Desk.due("told(8)", desk.x.told(8), 0);
        }
    }

    private static void none() {
        Desk desk = Desk.begun(BUSY, 3, 0, 1, 1, 2);
        String first = desk.everything();
        Desk.due("undo() of no TURN", desk.x.undo(), Desk.NONE);
        Desk.due("all stays", desk.everything(), first);
        desk.x.run(8);
        for (int i = 0; i < 6; i++) {
            desk.x.undo();
        }
        String all = desk.everything();
        Desk.due("undo() of the seventh", desk.x.undo(), Desk.NONE);
        Desk.due("undo() once more", desk.x.undo(), Desk.NONE);
        Desk.due("all stays", desk.everything(), all);
        desk.x.begin(1);
        Desk.due("undo() behind begin()", desk.x.undo(), Desk.NONE);
    }

    private static void noRun() {
        Desk desk = new Desk();
        Desk.due("undo() of a new object", desk.x.undo(), Desk.BAD);
        desk.load("start { } round { }");
        Desk.due("undo() without begin()", desk.x.undo(), Desk.BAD);
        desk.x.begin(1);
        desk.x.run(3);
        desk.x.nodes(2);
        Desk.due("undo() behind nodes()", desk.x.undo(), Desk.BAD);
        desk.x.begin(1);
        desk.x.run(3);
        desk.x.arc(0, 1);
        Desk.due("undo() behind arc()", desk.x.undo(), Desk.BAD);
        desk.x.begin(1);
        desk.x.run(3);
        desk.load("start { } round { }");
        Desk.due("undo() behind program()", desk.x.undo(), Desk.BAD);
    }

    private static void allComesBack() {
        Desk desk = Desk.with(BUSY, 3, 0, 1, 1, 2, 2, 0, 2, 1);
        desk.x.begin(77);
        String[] rows = new String[9];
        for (int i = 0; i < rows.length; i++) {
            rows[i] = desk.standing();
            desk.x.run(1);
        }
        for (int i = 8; i >= 3; i--) {
            Desk.due("undo()", desk.x.undo(), i);
            Desk.due("all ahead of turn " + i, desk.standing(), rows[i]);
        }
    }

    private static void doneAgain() {
        Desk desk = Desk.with(BUSY, 3, 0, 1, 1, 2, 2, 0, 2, 1);
        desk.x.begin(77);
        desk.x.run(9);
        String far = desk.standing();
        for (int i = 0; i < 6; i++) {
            desk.x.undo();
        }
        Desk.due("run(6)", desk.x.run(6), 6);
        Desk.due("all", desk.standing(), far);
        Desk.due("told(8)", desk.x.told(8), 6);
    }

    private static void backAndForth() {
        Desk desk = Desk.begun("node v : int = 0 ; start { v = 1 ; } round { v = v + 1 ; }", 1);
        int turn = 0;
        int kept = 0;
        int[] moves = {3, -2, 4, -1, 7, -6, 1, -1, -1, 2, -2, 20, -3, 2, -4, 1, -2, 9, -7, 3};
        for (int move : moves) {
            for (int i = 0; i < Math.abs(move); i++) {
                if (move > 0) {
                    Desk.due("run(1)", desk.x.run(1), 1);
                    turn++;
                    kept = Math.min(kept + 1, 6);
                } else {
                    Desk.due("undo()", desk.x.undo(), kept > 0 ? turn - 1 : Desk.NONE);
                    turn -= kept > 0 ? 1 : 0;
                    kept -= kept > 0 ? 1 : 0;
                }
            }
            Desk.due("told(0) and told(8)", desk.told(0, 8), turn + " " + kept);
            Desk.due("v", desk.x.state(0, 0), turn);
        }
    }

    private static void startAgain() {
        Desk desk = Desk.begun("node s : int = 0 ; node r : int = 0 ; start { s = s + 1 ; } round { r = r + 1 ; }", 1);
        desk.x.run(2);
        desk.x.undo();
        desk.x.undo();
        Desk.due("states", desk.states(0), "0 0");
        desk.x.run(1);
        Desk.due("states behind TURN 0 again", desk.states(0), "1 0");
    }

    private static void behindTheEnd() {
        Desk desk = Desk.begun("start { } round { if turn == 2 { halt ; } }", 2);
        Desk.due("run(100)", desk.x.run(100), 3);
        Desk.due("ENDED", desk.x.told(1), 1);
        Desk.due("undo()", desk.x.undo(), 2);
        Desk.due("not ENDED", desk.x.told(1), 0);
        Desk.due("halted(0)", desk.x.halted(0), 0);
        Desk.due("run(100) again", desk.x.run(100), 1);
        Desk.due("run(100) does none", desk.x.run(100), 0);
        Desk.due("told(8)", desk.x.told(8), 3);
        Desk.due("undo() of the last that was done", desk.x.undo(), 2);
    }

    private static void failedTurn() {
        Desk desk = Desk.begun("node v : int = 0 ; start { v = 6 ; } round { v = v / ( 3 - turn ) ; }", 1);
        Desk.due("run(9)", desk.x.run(9), Desk.FAILED);
        Desk.due("told(8)", desk.x.told(8), 3);
        Desk.due("undo(): TURN 2", desk.x.undo(), 2);
        Desk.due("v", desk.x.state(0, 0), 3);
        Desk.due("run(9)", desk.x.run(9), Desk.FAILED);
        Desk.due("told(8)", desk.x.told(8), 3);
        // with six kept a TURN that fails takes none of them away
        desk = Desk.begun("node v : int = 0 ; start { v = 1 ; } round { v = v + 1 / ( 8 - turn ) + 1 ; }", 1);
        Desk.due("run(9)", desk.x.run(9), Desk.FAILED);
        for (int i = 0; i < 6; i++) {
            Desk.due("undo()", desk.x.undo(), 7 - i);
        }
        Desk.due("undo() of the seventh", desk.x.undo(), Desk.NONE);
        Desk.due("v", desk.x.state(0, 0), 2);
    }

    private static void allElseStays() {
        Desk desk = Desk.begun("column w ; fold f : sum ; start { send f arc . w along ; } round { }", 2, 0, 1);
        desk.x.weight(0, 0, 5);
        desk.x.run(1);
        desk.x.weight(0, 0, 6);
        desk.feed("w");
        Desk.due("undo()", desk.x.undo(), 0);
        Desk.due("count(5)", desk.x.count(5), 2);
        Desk.due("count(6)", desk.x.count(6), 1);
        Desk.due("weight(0, 0, 7)", desk.x.weight(0, 0, 7), 6);
        Desk.due("name() of what is on the tape", desk.x.name(), 0);
        desk.x.run(1);
        Desk.due("message(1, 0)", desk.x.message(1, 0), 7);
    }
}
