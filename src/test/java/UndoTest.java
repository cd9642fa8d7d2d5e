/** Promise 14 (undo): the last six TURNS, one by one. */
public final class UndoTest {
    public static void main(String[] args) {
        wrongCalls();
        six();
        allComesBack();
        behindTheEnd();
        stepsStay();
        stepsOfAFailure();
        Desk.close();
    }

    private static void wrongCalls() {
        Desk desk = new Desk();
        Desk.due("undo() without a program", desk.x.undo(), Desk.BAD);
        desk.load("start { } round { }");
        Desk.due("undo() without a RUN", desk.x.undo(), Desk.BAD);
        desk.x.begin(1);
        Desk.due("undo() of no TURN", desk.x.undo(), Desk.NONE);
        desk.x.run(1);
        Desk.due("undo() of one", desk.x.undo(), 0);
        Desk.due("undo() of none", desk.x.undo(), Desk.NONE);
        desk.x.run(3);
        desk.x.begin(1);
        Desk.due("undo() behind begin()", desk.x.undo(), Desk.NONE);
    }

    private static void six() {
        Desk desk = Desk.with("node v : int = 0 ; start { } round { v = v + turn ; }", 2);
        desk.x.begin(0);
        desk.x.run(10);
        Desk.due("told(8)", desk.x.told(8), 6);
        for (int turn = 9; turn >= 4; turn--) {
            Desk.due("undo()", desk.x.undo(), turn);
            Desk.due("told(0)", desk.x.told(0), turn);
            Desk.due("told(8)", desk.x.told(8), turn - 4);
            Desk.due("v", desk.column(0), turn * (turn - 1) / 2 + " " + turn * (turn - 1) / 2);
        }
        Desk.due("the seventh", desk.x.undo(), Desk.NONE);
        Desk.due("told(0) stays", desk.x.told(0), 4);
        Desk.due("run(1)", desk.x.run(1), 1);
        Desk.due("undo() of that one", desk.x.undo(), 4);
        Desk.due("no more", desk.x.undo(), Desk.NONE);
        Desk.due("run(3)", desk.x.run(3), 3);
        Desk.due("told(8)", desk.x.told(8), 3);
        Desk.due("v", desk.x.state(0, 0), 21);
        Desk.due("run(100)", desk.x.run(100), 100);
        Desk.due("told(8)", desk.x.told(8), 6);
    }

    /** All that undo() brings back; told(8) goes down, and told(9) stays that of the TURN done last. */
    private static String all(Desk desk) {
        StringBuilder out = new StringBuilder();
        for (int what = 0; what <= 7; what++) {
            out.append(desk.x.told(what)).append(' ');
        }
        for (int node = 0; node < 3; node++) {
            out.append(desk.states(node)).append(' ').append(desk.x.message(node, 0)).append(' ');
            out.append(desk.x.messages(node, 0)).append(' ').append(desk.x.halted(node)).append(' ');
        }
        return out.append(desk.x.global(0)).toString();
    }

    private static void allComesBack() {
        Desk desk = Desk.with("node v : int = 3 ; node b : bool = false ; fold f : sum ; global g : most ; start { "
            + "send f id + draw ( 100 ) along ; } round { v = v * 3 + f + draw ( 50 ) ; b = ! b ; give g v ; "
            + "if v % 2 == 0 { send f v along ; halt ; } send f 1 against ; }", 3, 0, 1, 1, 2, 2, 0, 2, 1);
        desk.x.begin(77);
        String[] rows = new String[9];
        for (int i = 0; i < rows.length; i++) {
            rows[i] = all(desk);
            desk.x.run(1);
        }
        for (int i = 8; i >= 3; i--) {
            Desk.due("undo()", desk.x.undo(), i);
            Desk.due("all ahead of turn " + i, all(desk), rows[i]);
        }
        for (int i = 3; i < 8; i++) {
            Desk.due("all ahead of turn " + i + ", done again", all(desk), rows[i]);
            desk.x.run(1);
        }
    }

    private static void behindTheEnd() {
        Desk desk = Desk.with("start { } round { if turn == 2 { halt ; } }", 2);
        desk.x.begin(0);
        Desk.due("run(100)", desk.x.run(100), 3);
        Desk.due("ENDED", desk.x.told(1), 1);
        Desk.due("undo()", desk.x.undo(), 2);
        Desk.due("not ENDED", desk.x.told(1), 0);
        Desk.due("halted(0)", desk.x.halted(0), 0);
        Desk.due("run(100) again", desk.x.run(100), 1);
        Desk.due("run(100) does none", desk.x.run(100), 0);
        Desk.due("told(8)", desk.x.told(8), 3);
    }

    private static void stepsStay() {
        Desk desk = Desk.with("node v : int = 0 ; start { v = id + 1 ; } "
            + "round { v = v + 1 ; if turn == 2 { halt ; } }", 2);
        desk.x.begin(5);
        Desk.due("told(9) of no TURN", desk.x.told(9), 0);
        desk.x.run(1);
        Desk.due("told(9) of TURN 0", desk.x.told(9), 8);
        Desk.due("undo()", desk.x.undo(), 0);
        Desk.due("told(9) of TURN 0, undone", desk.x.told(9), 8);
        Desk.due("undo() of none", desk.x.undo(), Desk.NONE);
        Desk.due("told(9) behind a refused undo()", desk.x.told(9), 8);
        desk.x.run(2);
        Desk.due("told(9) of TURN 1", desk.x.told(9), 16);
        desk.x.run(1);
        Desk.due("told(9) of TURN 2", desk.x.told(9), 18);
        desk.x.undo();
        desk.x.undo();
        Desk.due("told(9) of TURN 2, undone with the one before", desk.x.told(9), 18);
        desk.x.run(1);
        Desk.due("told(9) of TURN 1, done again", desk.x.told(9), 16);
        desk.x.run(100);
        Desk.due("ENDED", desk.x.told(1), 1);
        Desk.due("run(1) does none", desk.x.run(1), 0);
        Desk.due("told(9) where none was done", desk.x.told(9), 18);
        desk.x.begin(5);
        Desk.due("told(9) behind begin()", desk.x.told(9), 0);
    }

    /** A TURN that failed was not done: its STEPS are nowhere, and those of an undone one stay. */
    private static void stepsOfAFailure() {
        Desk desk = Desk.with("node v : int = 0 ; start { } round { v = 6 / ( 2 - turn ) ; }", 1);
        desk.x.begin(5);
        desk.x.run(2);
        Desk.due("told(9) of TURN 1", desk.x.told(9), 6);
        Desk.due("run(1)", desk.x.run(1), Desk.FAILED);
        Desk.due("told(9) behind a FAILURE", desk.x.told(9), 6);
        desk.x.undo();
        desk.x.undo();
        Desk.due("told(9) of TURN 1, undone", desk.x.told(9), 6);
        Desk.due("told(4) stays", desk.x.told(4), 1);
        Desk.due("run(1)", desk.x.run(1), 1);
        Desk.due("told(9) of TURN 0", desk.x.told(9), 0);
    }
}
