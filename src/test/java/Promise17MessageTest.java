/** Promise 17: what is under way to a node of a fold, folded (a bool: 1, 0). BAD (0 here): none such. */
public final class Promise17MessageTest {
    public static void main(String[] args) {
        Desk.held("17 message: what is under way, folded", Promise17MessageTest::folded);
        Desk.held("17 message: numbers at both ends", Promise17MessageTest::bothEnds);
        Desk.held("17 message: a bool: 1, 0", Promise17MessageTest::bools);
        Desk.held("17 message: where there is nothing", Promise17MessageTest::nothing);
        Desk.held("17 message: for the next turn alone", Promise17MessageTest::nextTurnAlone);
        Desk.held("17 message: each of four folds, of forty nodes, has its own", Promise17MessageTest::itsOwn);
        Desk.held("17 message: 0: no RUN", Promise17MessageTest::noRun);
        Desk.held("17 message: 0: no such node", Promise17MessageTest::noSuchNode);
        Desk.held("17 message: 0: no such fold", Promise17MessageTest::noSuchFold);
        Desk.close();
    }

    private static void folded() {
        Desk desk = Desk.begun("fold s : sum ; fold l : least ; fold m : most ; fold f : first ; start { send s id + 1 along ; "
            + "send l id + 1 along ; send m id + 1 along ; send f id + 1 along ; } round { }", 4, 1, 0, 2, 0, 3, 0, 2, 1);
        desk.x.run(1);
        int[] want = {9, 2, 4, 2};
        for (int fold = 0; fold < 4; fold++) {
            Desk.due("message(0, " + fold + ")", desk.x.message(0, fold), want[fold]);
            Desk.due("message(1, " + fold + ")", desk.x.message(1, fold), 3);
        }
    }

    private static void bothEnds() {
        Desk desk = Desk.begun("fold s : sum ; fold l : least ; fold m : most ; fold f : first ; start { send s 1073741824 along ; "
            + "send l - 2147483647 - id along ; send m 2147483646 + id along ; send f - 1 along ; } round { }", 2, 0, 1, 1, 1);
        desk.x.run(1);
        Desk.due("sum", desk.x.message(1, 0), Desk.LEAST);
        Desk.due("least", desk.x.message(1, 1), Desk.LEAST);
        Desk.due("most", desk.x.message(1, 2), Desk.GREATEST);
        Desk.due("first", desk.x.message(1, 3), -1);
    }

    private static void bools() {
        Desk desk = Desk.begun("fold a : all ; fold s : some ; start { send a id < 2 along ; send s id == 1 along ; } round { }",
            3, 0, 0, 1, 0, 0, 1, 2, 1, 0, 2);
        desk.x.run(1);
        Desk.due("all of true, true", desk.x.message(0, 0), 1);
        Desk.due("all of true, false", desk.x.message(1, 0), 0);
        Desk.due("some of false, true", desk.x.message(0, 1), 1);
        Desk.due("some of false, false", desk.x.message(1, 1), 0);
        Desk.due("some of false", desk.x.message(2, 1), 0);
    }

    private static void nothing() {
        String[] ways = {"sum", "least", "most", "first", "all", "some"};
        int[] none = {0, Desk.GREATEST, Desk.LEAST, 0, 1, 0};
        for (int i = 0; i < ways.length; i++) {
            Desk desk = Desk.begun("fold f : " + ways[i] + " ; start { } round { }", 2);
            Desk.due("message(1, 0) by " + ways[i], desk.x.message(1, 0), none[i]);
            desk.x.run(3);
            Desk.due("message(1, 0) by " + ways[i] + ", later", desk.x.message(1, 0), none[i]);
        }
    }

    private static void nextTurnAlone() {
        Desk desk = Desk.begun("fold f : least ; start { send f 7 along ; } round { if turn == 2 { send f 8 against ; } }", 2, 0, 1);
        int[][] want = {{Desk.GREATEST, Desk.GREATEST}, {Desk.GREATEST, 7}, {Desk.GREATEST, Desk.GREATEST}, {8, Desk.GREATEST},
            {Desk.GREATEST, Desk.GREATEST}};
        for (int turn = 0; turn < want.length; turn++) {
            Desk.due("message(0, 0) ahead of turn " + turn, desk.x.message(0, 0), want[turn][0]);
            Desk.due("message(1, 0) ahead of turn " + turn, desk.x.message(1, 0), want[turn][1]);
            desk.x.run(1);
        }
        desk.x.undo();
        desk.x.undo();
        Desk.due("message(0, 0) behind undo()", desk.x.message(0, 0), 8);
    }

    private static void itsOwn() {
        Desk desk = Desk.with("fold a : sum ; fold b : sum ; fold c : sum ; fold d : sum ; start { send a id * 10 along ; "
            + "send b id * 10 + 1 along ; send c id * 10 + 2 along ; send d id * 10 + 3 along ; } round { }", 40);
        for (int node = 0; node < 40; node++) {
            desk.x.arc(node, 39 - node);
        }
        desk.x.begin(0);
        desk.x.run(1);
        for (int node : new int[] {0, 1, 38, 39}) {
            for (int fold = 0; fold < 4; fold++) {
                Desk.due("message(" + node + ", " + fold + ")", desk.x.message(node, fold), (39 - node) * 10 + fold);
            }
            Desk.due("message(" + node + ", 4)", desk.x.message(node, 4), 0);
        }
    }

    private static void noRun() {
        Desk desk = new Desk();
        Desk.due("message(0, 0) of a new object", desk.x.message(0, 0), 0);
        desk.load("fold f : least ; start { } round { }");
        Desk.due("message(0, 0) without begin()", desk.x.message(0, 0), 0);
        desk.x.begin(1);
        Desk.due("message(0, 0)", desk.x.message(0, 0), Desk.GREATEST);
        desk.x.nodes(1);
        Desk.due("message(0, 0) behind nodes()", desk.x.message(0, 0), 0);
        desk.x.begin(1);
        desk.x.arc(0, 0);
        Desk.due("message(0, 0) behind arc()", desk.x.message(0, 0), 0);
        desk.x.begin(1);
        desk.load("fold f : least ; start { } round { }");
        Desk.due("message(0, 0) behind program()", desk.x.message(0, 0), 0);
    }

    private static void noSuchNode() {
        for (int nodes : new int[] {1, 3, 40}) {
            Desk desk = Desk.begun("fold f : least ; start { } round { }", nodes);
            Desk.due("the last", desk.x.message(nodes - 1, 0), Desk.GREATEST);
            for (int wrong : new int[] {-1, nodes, nodes + 1, 41, Desk.LEAST, Desk.GREATEST}) {
                Desk.due("message(" + wrong + ", 0) of " + nodes, desk.x.message(wrong, 0), 0);
            }
        }
    }

    private static void noSuchFold() {
        String[] texts = {"global g : least ; start { } round { }", "fold f : least ; start { } round { }",
            "fold f : least ; fold h : all ; start { } round { }"};
        for (int folds = 0; folds < texts.length; folds++) {
            Desk desk = Desk.begun(texts[folds], 3);
            for (int wrong : new int[] {-1, folds, folds + 1, 4, 5, Desk.LEAST, Desk.GREATEST}) {
                Desk.due("message(1, " + wrong + ") of " + folds, desk.x.message(1, wrong), 0);
            }
            Desk.due("message(greatest, least)", desk.x.message(Desk.GREATEST, Desk.LEAST), 0);
        }
    }
}
