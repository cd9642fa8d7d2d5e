/** Promise 19: a global as it is read in the next TURN (a bool: 1, 0). BAD (0 here): none such. */
public final class Promise19GlobalTest {
    public static void main(String[] args) {
        Desk.held("19 global: as it is read in the next TURN", Promise19GlobalTest::nextTurn);
        Desk.held("19 global: numbers at both ends", Promise19GlobalTest::bothEnds);
        Desk.held("19 global: a bool: 1, 0", Promise19GlobalTest::bools);
        Desk.held("19 global: where nothing was given", Promise19GlobalTest::nothing);
        Desk.held("19 global: each of four has its own", Promise19GlobalTest::itsOwn);
        Desk.held("19 global: 0: no RUN", Promise19GlobalTest::noRun);
        Desk.held("19 global: 0: none such", Promise19GlobalTest::noneSuch);
        Desk.close();
    }

    private static void nextTurn() {
        Desk desk = Desk.begun("node v : int = 0 ; global g : sum ; start { give g id + 1 ; v = g ; } round { v = g ; "
            + "if turn == 2 { give g 100 ; } }", 3);
        int[] want = {0, 6, 0, 300, 0};
        for (int turn = 0; turn < want.length; turn++) {
            Desk.due("global(0) ahead of turn " + turn, desk.x.global(0), want[turn]);
            desk.x.run(1);
            Desk.due("as it was read in turn " + turn, desk.x.state(2, 0), want[turn]);
        }
        desk.x.undo();
        desk.x.undo();
        Desk.due("global(0) behind undo()", desk.x.global(0), 300);
    }

    private static void bothEnds() {
        Desk desk = Desk.begun("global s : sum ; global l : least ; global m : most ; global f : first ; start { "
            + "give s - 1073741824 - id ; give l - 2147483647 - id ; give m 2147483646 + id ; give f 2147483647 + id * 2 ; } round { }", 2);
        desk.x.run(1);
        Desk.due("sum", desk.x.global(0), Desk.GREATEST);
        Desk.due("least", desk.x.global(1), Desk.LEAST);
        Desk.due("most", desk.x.global(2), Desk.GREATEST);
        Desk.due("first", desk.x.global(3), Desk.GREATEST);
    }

    private static void bools() {
        Desk desk = Desk.begun("global a : all ; global b : all ; global c : some ; global d : some ; start { give a true ; "
            + "give b id != 2 ; give c id == 1 ; give d false ; } round { }", 4);
        desk.x.run(1);
        Desk.due("all of true", desk.x.global(0), 1);
        Desk.due("all with one false", desk.x.global(1), 0);
        Desk.due("some with one true", desk.x.global(2), 1);
        Desk.due("some of false", desk.x.global(3), 0);
    }

    private static void nothing() {
        String[] ways = {"sum", "least", "most", "first", "all", "some"};
        int[] none = {0, Desk.GREATEST, Desk.LEAST, 0, 1, 0};
        for (int i = 0; i < ways.length; i++) {
            String own = i < 4 ? "5" : String.valueOf(none[i] == 0);
            Desk desk = Desk.begun("global g : " + ways[i] + " ; start { give g " + own + " ; } round { }", 1);
            Desk.due("global(0) by " + ways[i], desk.x.global(0), none[i]);
            desk.x.run(1);
            Desk.due("global(0) by " + ways[i] + ", given", desk.x.global(0), i < 4 ? 5 : 1 - none[i]);
            desk.x.run(1);
            Desk.due("global(0) by " + ways[i] + ", a turn later", desk.x.global(0), none[i]);
        }
    }

    private static void itsOwn() {
        Desk desk = Desk.begun("global a : sum ; global b : sum ; global c : sum ; global d : sum ; start { give a 1 ; give b 2 ; "
            + "give c 3 ; give d 4 ; } round { }", 40);
        desk.x.run(1);
        for (int k = 0; k < 4; k++) {
            Desk.due("global(" + k + ")", desk.x.global(k), 40 * (k + 1));
        }
        Desk.due("global(4)", desk.x.global(4), 0);
    }

    private static void noRun() {
        Desk desk = new Desk();
        Desk.due("global(0) of a new object", desk.x.global(0), 0);
        desk.load("global g : least ; start { } round { }");
        Desk.due("global(0) without begin()", desk.x.global(0), 0);
        desk.x.begin(1);
        Desk.due("global(0)", desk.x.global(0), Desk.GREATEST);
        desk.x.nodes(1);
        Desk.due("global(0) behind nodes()", desk.x.global(0), 0);
        desk.x.begin(1);
        desk.x.arc(0, 0);
        Desk.due("global(0) behind arc()", desk.x.global(0), 0);
        desk.x.begin(1);
        desk.load("global g : least ; start { } round { }");
        Desk.due("global(0) behind program()", desk.x.global(0), 0);
    }

    private static void noneSuch() {
        String[] texts = {"fold g : least ; start { } round { }", "global g : least ; start { } round { }",
            "global g : least ; global h : all ; start { } round { }"};
        for (int globals = 0; globals < texts.length; globals++) {
            Desk desk = Desk.begun(texts[globals], 3);
            for (int wrong : new int[] {-1, globals, globals + 1, 4, 5, Desk.LEAST, Desk.GREATEST}) {
                Desk.due("global(" + wrong + ") of " + globals, desk.x.global(wrong), 0);
            }
        }
    }
}
