/** Promise 20: whether a node has halted. BAD: none such. */
public final class Promise20HaltedTest {
    public static void main(String[] args) {
        Desk.held("20 halted: whether a node has halted", Promise20HaltedTest::whether);
        Desk.held("20 halted: with a message under way it has halted still, behind the next TURN not", Promise20HaltedTest::woken);
        Desk.held("20 halted: undo() and begin() bring it back", Promise20HaltedTest::broughtBack);
        Desk.held("20 halted: a TURN that failed leaves it", Promise20HaltedTest::failed);
        Desk.held("20 halted: BAD: no RUN", Promise20HaltedTest::noRun);
        Desk.held("20 halted: BAD: none such", Promise20HaltedTest::noneSuch);
        Desk.close();
    }

    private static String row(Desk desk) {
        StringBuilder out = new StringBuilder();
        for (int node = 0; node < desk.x.count(5); node++) {
            out.append(desk.x.halted(node));
        }
        return out.toString();
    }

    private static void whether() {
        Desk desk = Desk.begun("start { if id % 3 == 0 { halt ; } } round { if id % 2 == 0 { halt ; } }", 40);
        Desk.due("at first", row(desk), "0".repeat(40));
        desk.x.run(1);
        Desk.due("behind TURN 0", row(desk), "100".repeat(13) + "1");
        desk.x.run(1);
        StringBuilder want = new StringBuilder();
        for (int node = 0; node < 40; node++) {
            want.append(node % 2 == 0 || node % 3 == 0 ? 1 : 0);
        }
        Desk.due("behind TURN 1", row(desk), want.toString());
    }

    private static void woken() {
        Desk desk = Desk.begun("fold f : sum ; start { send f 1 along ; halt ; } round { if turn == 3 { halt ; } }", 2, 0, 1);
        String[] want = {"00", "11", "10", "10", "11"};
        for (int turn = 0; turn < want.length; turn++) {
            Desk.due("ahead of turn " + turn, row(desk), want[turn]);
            desk.x.run(1);
        }
    }

    private static void broughtBack() {
        Desk desk = Desk.begun("start { } round { if id == turn { halt ; } }", 3);
        desk.x.run(3);
        Desk.due("behind TURN 2", row(desk), "011");
        desk.x.undo();
        Desk.due("behind undo()", row(desk), "010");
        desk.x.undo();
        Desk.due("behind undo()", row(desk), "000");
        desk.x.run(2);
        Desk.due("done again", row(desk), "011");
        desk.x.begin(0);
        Desk.due("behind begin()", row(desk), "000");
    }

    private static void failed() {
        Desk desk = Desk.begun("start { if id == 0 { halt ; } } round { if id == 1 { halt ; } let x = 1 / ( id - 2 ) ; }", 3);
        desk.x.run(1);
        Desk.due("run(1)", desk.x.run(1), Desk.FAILED);
        Desk.due("behind a FAILURE", row(desk), "100");
    }

    private static void noRun() {
        Desk desk = new Desk();
        Desk.due("halted(0) of a new object", desk.x.halted(0), Desk.BAD);
        desk.load("start { halt ; } round { }");
        Desk.due("halted(0) without begin()", desk.x.halted(0), Desk.BAD);
        desk.x.begin(1);
        desk.x.run(1);
        Desk.due("halted(0)", desk.x.halted(0), 1);
        desk.x.nodes(1);
        Desk.due("halted(0) behind nodes()", desk.x.halted(0), Desk.BAD);
        desk.x.begin(1);
        desk.x.arc(0, 0);
        Desk.due("halted(0) behind arc()", desk.x.halted(0), Desk.BAD);
        desk.x.begin(1);
        desk.load("start { halt ; } round { }");
        Desk.due("halted(0) behind program()", desk.x.halted(0), Desk.BAD);
    }

    private static void noneSuch() {
        for (int nodes : new int[] {1, 3, 39, 40}) {
            Desk desk = Desk.begun("start { halt ; } round { }", nodes);
            desk.x.run(1);
            Desk.due("the first of " + nodes, desk.x.halted(0), 1);
            Desk.due("the last of " + nodes, desk.x.halted(nodes - 1), 1);
            for (int wrong : new int[] {-1, nodes, nodes + 1, 41, Desk.LEAST, Desk.GREATEST}) {
                Desk.due("halted(" + wrong + ") of " + nodes, desk.x.halted(wrong), Desk.BAD);
            }
        }
    }
}
