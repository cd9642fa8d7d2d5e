/** Promise 18: how many messages of a fold are under way to a node. BAD: none such. */
public final class Promise18MessagesTest {
    public static void main(String[] args) {
        Desk.held("18 messages: how many of a fold are under way to a node", Promise18MessagesTest::howMany);
        Desk.held("18 messages: none, and all that 120 arcs can bring", Promise18MessagesTest::noneAndMost);
        Desk.held("18 messages: for the next turn alone", Promise18MessagesTest::nextTurnAlone);
        Desk.held("18 messages: all of them are what told 2 says", Promise18MessagesTest::together);
        Desk.held("18 messages: BAD: no RUN", Promise18MessagesTest::noRun);
        Desk.held("18 messages: BAD: no such node", Promise18MessagesTest::noSuchNode);
        Desk.held("18 messages: BAD: no such fold", Promise18MessagesTest::noSuchFold);
        Desk.close();
    }

    private static void howMany() {
        Desk desk = Desk.begun("fold f : least ; fold h : some ; fold s : sum ; start { send f id - 4 along ; send h id == 1 along ; "
            + "if id == 0 { send h true against ; } } round { }", 3, 0, 1, 1, 2, 2, 0, 1, 0, 2, 0);
        desk.x.run(1);
        int[][] want = {{3, 3, 0}, {1, 2, 0}, {1, 3, 0}};
        for (int node = 0; node < 3; node++) {
            for (int fold = 0; fold < 3; fold++) {
                Desk.due("messages(" + node + ", " + fold + ")", desk.x.messages(node, fold), want[node][fold]);
            }
        }
    }

    private static void noneAndMost() {
        Desk desk = Desk.with("fold f : sum ; fold h : all ; start { if id == 39 { loop 4 { send f 1 along ; } } } round { }", 40);
        for (int i = 0; i < 120; i++) {
            desk.x.arc(39, 0);
        }
        desk.x.begin(0);
        Desk.due("messages(0, 0) at first", desk.x.messages(0, 0), 0);
        Desk.due("run(1)", desk.x.run(1), 1);
        Desk.due("messages(0, 0)", desk.x.messages(0, 0), 480);
        Desk.due("messages(0, 1)", desk.x.messages(0, 1), 0);
        Desk.due("messages(39, 0)", desk.x.messages(39, 0), 0);
    }

    private static void nextTurnAlone() {
        Desk desk = Desk.begun("fold f : sum ; start { send f 0 along ; } round { if turn == 2 { send f 0 along ; send f 0 along ; } }",
            2, 0, 1);
        int[] want = {0, 1, 0, 2, 0};
        for (int turn = 0; turn < want.length; turn++) {
            Desk.due("messages(1, 0) ahead of turn " + turn, desk.x.messages(1, 0), want[turn]);
            desk.x.run(1);
        }
        desk.x.undo();
        desk.x.undo();
        Desk.due("messages(1, 0) behind undo()", desk.x.messages(1, 0), 2);
    }

    private static void together() {
        Desk desk = Desk.begun("fold a : sum ; fold b : first ; fold c : all ; fold d : most ; start { send a 1 along ; send b 2 along ; "
            + "send c false against ; send d 3 along ; } round { }", 3, 0, 1, 1, 2, 1, 1);
        desk.x.run(1);
        int sum = 0;
        for (int node = 0; node < 3; node++) {
            for (int fold = 0; fold < 4; fold++) {
                sum += desk.x.messages(node, fold);
            }
        }
        Desk.due("all together", sum, 12);
        Desk.due("told(2)", desk.x.told(2), 12);
    }

    private static void noRun() {
        Desk desk = new Desk();
        Desk.due("messages(0, 0) of a new object", desk.x.messages(0, 0), Desk.BAD);
        desk.load("fold f : least ; start { } round { }");
        Desk.due("messages(0, 0) without begin()", desk.x.messages(0, 0), Desk.BAD);
        desk.x.begin(1);
        Desk.due("messages(0, 0)", desk.x.messages(0, 0), 0);
        desk.x.nodes(1);
        Desk.due("messages(0, 0) behind nodes()", desk.x.messages(0, 0), Desk.BAD);
        desk.x.begin(1);
        desk.x.arc(0, 0);
        Desk.due("messages(0, 0) behind arc()", desk.x.messages(0, 0), Desk.BAD);
        desk.x.begin(1);
        desk.load("fold f : least ; start { } round { }");
        Desk.due("messages(0, 0) behind program()", desk.x.messages(0, 0), Desk.BAD);
    }

    private static void noSuchNode() {
        for (int nodes : new int[] {1, 3, 40}) {
            Desk desk = Desk.begun("fold f : least ; start { } round { }", nodes);
            Desk.due("the last", desk.x.messages(nodes - 1, 0), 0);
            for (int wrong : new int[] {-1, nodes, nodes + 1, 41, Desk.LEAST, Desk.GREATEST}) {
                Desk.due("messages(" + wrong + ", 0) of " + nodes, desk.x.messages(wrong, 0), Desk.BAD);
            }
        }
    }

    private static void noSuchFold() {
        String[] texts = {"global g : least ; start { } round { }", "fold f : least ; start { } round { }",
            "fold f : least ; fold h : all ; start { } round { }",
            "fold a : sum ; fold b : sum ; fold c : sum ; start { } round { }",
            "fold a : sum ; fold b : sum ; fold c : sum ; fold d : sum ; start { } round { }"};
        for (int folds = 0; folds < texts.length; folds++) {
            Desk desk = Desk.begun(texts[folds], 3);
            for (int fold = 0; fold < folds; fold++) {
                Desk.due("messages(2, " + fold + ") of " + folds, desk.x.messages(2, fold), 0);
            }
            for (int wrong : new int[] {-1, folds, folds + 1, 4, 5, Desk.LEAST, Desk.GREATEST}) {
                Desk.due("messages(1, " + wrong + ") of " + folds, desk.x.messages(1, wrong), Desk.BAD);
            }
            Desk.due("messages(greatest, least)", desk.x.messages(Desk.GREATEST, Desk.LEAST), Desk.BAD);
        }
    }
}
