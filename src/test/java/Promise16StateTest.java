/** Promise 16: a node's state (a bool: 1, 0). BAD (0 here): no RUN, none such. */
public final class Promise16StateTest {
    public static void main(String[] args) {
        Desk.held("16 state: a node's state, at both ends", Promise16StateTest::bothEnds);
        Desk.held("16 state: a bool: 1, 0", Promise16StateTest::bools);
        Desk.held("16 state: the first and the last of eight, of forty nodes", Promise16StateTest::firstAndLast);
        Desk.held("16 state: 0: no RUN", Promise16StateTest::noRun);
        Desk.held("16 state: 0: no such node", Promise16StateTest::noSuchNode);
        Desk.held("16 state: 0: no such state", Promise16StateTest::noSuchState);
        Desk.held("16 state: asking changes nothing", Promise16StateTest::asking);
        Desk.close();
    }

    private static void bothEnds() {
        Desk desk = Desk.begun("node a : int = 2147483647 ; node b : int = - 2147483647 ; node c : int = 0 ; start { a = a + 1 ; "
            + "b = b - 2 ; c = - 1 ; } round { }", 2);
        Desk.due("states at first", desk.states(1), "2147483647 -2147483647 0");
        desk.x.run(1);
        Desk.due("states then", desk.states(1), "-2147483648 2147483647 -1");
    }

    private static void bools() {
        Desk desk = Desk.begun("node a : bool = true ; node b : bool = false ; start { a = ! a ; b = 1 < 2 ; } "
            + "round { a = b || a ; b = b && a ; }", 2);
        Desk.due("at first", desk.states(0), "1 0");
        desk.x.run(1);
        Desk.due("then", desk.states(0), "0 1");
        desk.x.run(1);
        Desk.due("then again", desk.states(0), "1 1");
    }

    private static void firstAndLast() {
        StringBuilder text = new StringBuilder();
        for (int k = 0; k < 8; k++) {
            text.append("node s").append(k).append(" : int = 0 ; ");
        }
        text.append("start { ");
        for (int k = 0; k < 8; k++) {
            text.append("s").append(k).append(" = id * 10 + ").append(k).append(" ; ");
        }
        Desk desk = Desk.begun(text + "} round { }", 40);
        desk.x.run(1);
        for (int node : new int[] {0, 1, 38, 39}) {
            for (int k = 0; k < 8; k++) {
                Desk.due("state(" + node + ", " + k + ")", desk.x.state(node, k), node * 10 + k);
            }
        }
        Desk.due("state(39, 8)", desk.x.state(39, 8), 0);
        Desk.due("state(40, 0)", desk.x.state(40, 0), 0);
    }

    private static void noRun() {
        Desk desk = new Desk();
        Desk.due("state(0, 0) of a new object", desk.x.state(0, 0), 0);
        desk.load("node a : int = 5 ; start { } round { }");
        Desk.due("state(0, 0) without begin()", desk.x.state(0, 0), 0);
        desk.x.begin(1);
        Desk.due("state(0, 0)", desk.x.state(0, 0), 5);
        desk.x.nodes(1);
        Desk.due("state(0, 0) behind nodes()", desk.x.state(0, 0), 0);
        desk.x.begin(1);
        desk.x.arc(0, 0);
        Desk.due("state(0, 0) behind arc()", desk.x.state(0, 0), 0);
        desk.x.begin(1);
        desk.load("node a : int = 5 ; start { } round { }");
        Desk.due("state(0, 0) behind program()", desk.x.state(0, 0), 0);
    }

    private static void noSuchNode() {
        for (int nodes : new int[] {1, 3, 40}) {
            Desk desk = Desk.begun("node a : int = 5 ; start { } round { }", nodes);
            Desk.due("the last", desk.x.state(nodes - 1, 0), 5);
            for (int wrong : new int[] {-1, nodes, nodes + 1, 41, Desk.LEAST, Desk.GREATEST}) {
                Desk.due("state(" + wrong + ", 0) of " + nodes, desk.x.state(wrong, 0), 0);
            }
        }
        // fewer nodes than before: what was there is not there any more
        Desk desk = Desk.begun("node a : int = 5 ; start { } round { }", 3);
        desk.x.nodes(2);
        desk.x.begin(1);
        Desk.due("state(2, 0) of two", desk.x.state(2, 0), 0);
    }

    private static void noSuchState() {
        String[] texts = {"start { } round { }", "node a : int = 5 ; start { } round { }",
            "node a : int = 5 ; node b : bool = true ; start { } round { }"};
        for (int states = 0; states < texts.length; states++) {
            Desk desk = Desk.begun(texts[states], 3);
            for (int wrong : new int[] {-1, states, states + 1, 8, 9, Desk.LEAST, Desk.GREATEST}) {
                Desk.due("state(1, " + wrong + ") of " + states, desk.x.state(1, wrong), 0);
            }
            Desk.due("state(least, greatest)", desk.x.state(Desk.LEAST, Desk.GREATEST), 0);
        }
    }

    private static void asking() {
        Desk desk = Desk.begun("node a : int = 5 ; fold f : sum ; start { send f 1 along ; } round { }", 2, 0, 1);
        desk.x.run(1);
        String all = desk.everything();
        desk.x.state(0, 0);
        desk.x.state(2, 0);
        desk.x.state(0, 1);
        Desk.due("all", desk.everything(), all);
    }
}
