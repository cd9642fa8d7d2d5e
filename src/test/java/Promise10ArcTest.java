/** Promise 10: an arc: its number. BAD: no such node. FULL: 120. */
public final class Promise10ArcTest {
    private static final String COUNTING = "node d : int = 9 ; node e : int = 9 ; fold f : sum ; fold h : sum ; "
        + "start { d = degree ; e = indegree ; send f id + 1 along ; send h id + 1 against ; } round { }";

    public static void main(String[] args) {
        Desk.held("10 arc: its number, 0 .. 119, as they are told", Promise10ArcTest::numbers);
        Desk.held("10 arc: to itself, and the same once more", Promise10ArcTest::toItself);
        Desk.held("10 arc: BAD: no such node, on either side of them", Promise10ArcTest::noSuchNode);
        Desk.held("10 arc: FULL: 120", Promise10ArcTest::full);
        Desk.held("10 arc: BAD of a full graph too", Promise10ArcTest::badOfAFullGraph);
        Desk.held("10 arc: BAD and FULL leave the arcs, and the RUN", Promise10ArcTest::refusedLeavesAll);
        Desk.held("10 arc: the RUN is gone with arc()", Promise10ArcTest::runIsGone);
        Desk.held("10 arc: from the node along, to it against; degree, indegree", Promise10ArcTest::ends);
        Desk.held("10 arc: 120 arcs of one node", Promise10ArcTest::allOfOneNode);
        Desk.close();
    }

    private static void numbers() {
        VertexLanguage x = new VertexLanguage();
        x.nodes(40);
        for (int i = 0; i < 120; i++) {
            Desk.due("arc " + i, x.arc(i % 40, 39 - i % 7), i);
            Desk.due("count(6)", x.count(6), i + 1);
        }
    }

    private static void toItself() {
        VertexLanguage x = new VertexLanguage();
        Desk.due("arc(0, 0) of one node", x.arc(0, 0), 0);
        x.nodes(3);
        Desk.due("arc(2, 2)", x.arc(2, 2), 0);
        Desk.due("arc(2, 2) once more", x.arc(2, 2), 1);
        Desk.due("arc(2, 1)", x.arc(2, 1), 2);
        Desk.due("arc(1, 2)", x.arc(1, 2), 3);
        Desk desk = Desk.begun(COUNTING, 1, 0, 0);
        desk.x.run(1);
        Desk.due("degree and indegree", desk.states(0), "1 1");
        Desk.due("message(0, 0)", desk.x.message(0, 0), 1);
        Desk.due("message(0, 1)", desk.x.message(0, 1), 1);
        Desk.due("told(2)", desk.x.told(2), 2);
    }

    private static void noSuchNode() {
        for (int n : new int[] {1, 2, 39, 40}) {
            VertexLanguage x = new VertexLanguage();
            x.nodes(n);
            for (int wrong : new int[] {-1, n, n + 1, Desk.LEAST, Desk.GREATEST}) {
                Desk.due("arc(" + wrong + ", 0) of " + n, x.arc(wrong, 0), Desk.BAD);
                Desk.due("arc(0, " + wrong + ") of " + n, x.arc(0, wrong), Desk.BAD);
                Desk.due("arc(" + wrong + ", " + wrong + ") of " + n, x.arc(wrong, wrong), Desk.BAD);
            }
            Desk.due("count(6)", x.count(6), 0);
            Desk.due("arc(0, " + (n - 1) + ") of " + n, x.arc(0, n - 1), 0);
            Desk.due("arc(" + (n - 1) + ", 0) of " + n, x.arc(n - 1, 0), 1);
        }
    }

    private static VertexLanguage fullGraph() {
        VertexLanguage x = new VertexLanguage();
        x.nodes(2);
        for (int i = 0; i < 120; i++) {
            x.arc(i % 2, 1);
        }
        return x;
    }

    private static void full() {
        VertexLanguage x = new VertexLanguage();
        x.nodes(2);
        for (int i = 0; i < 119; i++) {
            x.arc(0, 1);
        }
        Desk.due("arc 119", x.arc(0, 1), 119);
        Desk.due("arc 120", x.arc(0, 1), Desk.FULL);
        Desk.due("arc 120 once more", x.arc(1, 1), Desk.FULL);
        Desk.due("count(6)", x.count(6), 120);
    }

    private static void badOfAFullGraph() {
        VertexLanguage x = fullGraph();
        Desk.due("arc(0, 2)", x.arc(0, 2), Desk.BAD);
        Desk.due("arc(-1, 0)", x.arc(-1, 0), Desk.BAD);
        Desk.due("arc(0, 0)", x.arc(0, 0), Desk.FULL);
    }

    private static void refusedLeavesAll() {
        Desk desk = new Desk();
        desk.x = fullGraph();
        desk.load(COUNTING);
        desk.x.begin(1);
        desk.x.run(1);
        String all = desk.everything();
        Desk.due("arc(0, 2)", desk.x.arc(0, 2), Desk.BAD);
        Desk.due("all behind BAD", desk.everything(), all);
        Desk.due("arc(0, 0)", desk.x.arc(0, 0), Desk.FULL);
        Desk.due("all behind FULL", desk.everything(), all);
        Desk.due("run(1)", desk.x.run(1), 1);
        Desk.due("weight(119, 0, 4)", desk.x.weight(119, 0, 4), 0);
        Desk.due("weight(120, 0, 4)", desk.x.weight(120, 0, 4), 0);
        Desk.due("weight(120, 0, 5)", desk.x.weight(120, 0, 5), 0);
    }

    private static void runIsGone() {
        Desk desk = Desk.begun("node a : int = 4 ; fold f : sum ; global g : all ; start { } round { }", 2);
        desk.x.run(2);
        Desk.due("arc(1, 0)", desk.x.arc(1, 0), 0);
        Desk.due("told(0)", desk.x.told(0), Desk.BAD);
        Desk.due("run(1)", desk.x.run(1), Desk.BAD);
        Desk.due("undo()", desk.x.undo(), Desk.BAD);
        Desk.due("state(0, 0)", desk.x.state(0, 0), 0);
        Desk.due("message(0, 0)", desk.x.message(0, 0), 0);
        Desk.due("messages(0, 0)", desk.x.messages(0, 0), Desk.BAD);
        Desk.due("global(0)", desk.x.global(0), 0);
        Desk.due("halted(0)", desk.x.halted(0), Desk.BAD);
        Desk.due("print(-1): the program stays", desk.x.print(-1) > 0, true);
        Desk.due("begin(1)", desk.x.begin(1), 1);
    }

    private static void ends() {
        Desk desk = Desk.begun("node d : int = 0 ; node e : int = 0 ; node n : int = 0 ; fold f : first ; fold h : first ; "
            + "start { d = degree ; e = indegree ; n = nodes ; send f id along ; send h id against ; } "
            + "round { d = f ; e = h ; n = if ( has f , 1 , 0 ) + if ( has h , 2 , 0 ) ; }",
            4, 2, 0, 1, 0, 2, 1, 1, 1, 2, 0);
        desk.x.run(1);
        Desk.due("degree", desk.column(0), "0 2 3 0");
        Desk.due("indegree", desk.column(1), "3 2 0 0");
        Desk.due("nodes", desk.column(2), "4 4 4 4");
        Desk.due("messages(0, 0)", desk.x.messages(0, 0), 3);
        Desk.due("messages(1, 1)", desk.x.messages(1, 1), 2);
        Desk.due("messages(2, 1)", desk.x.messages(2, 1), 3);
        desk.x.run(1);
        Desk.due("first along", desk.column(0), "1 1 0 0");
        Desk.due("first against", desk.column(1), "0 0 0 0");
        Desk.due("has", desk.column(2), "1 3 2 0");
    }

    private static void allOfOneNode() {
        Desk desk = Desk.with(COUNTING, 40);
        for (int i = 0; i < 120; i++) {
            desk.x.arc(39, 0);
        }
        desk.x.begin(0);
        Desk.due("run(1)", desk.x.run(1), 1);
        Desk.due("states of 39", desk.states(39), "120 0");
        Desk.due("states of 0", desk.states(0), "0 120");
        Desk.due("messages(0, 0)", desk.x.messages(0, 0), 120);
        Desk.due("message(0, 0)", desk.x.message(0, 0), 120 * 40);
        Desk.due("messages(39, 1)", desk.x.messages(39, 1), 120);
        Desk.due("message(39, 1)", desk.x.message(39, 1), 120);
        Desk.due("told(2)", desk.x.told(2), 240);
    }
}
