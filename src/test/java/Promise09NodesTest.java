/** Promise 9: how many nodes (1 .. 40): how many there were; all arcs go. */
public final class Promise09NodesTest {
    public static void main(String[] args) {
        Desk.held("9 nodes: from 1 to 40: how many there were", Promise09NodesTest::howManyThereWere);
        Desk.held("9 nodes: BAD: another number", Promise09NodesTest::anotherNumber);
        Desk.held("9 nodes: BAD leaves nodes, arcs and their numbers as they were", Promise09NodesTest::badLeavesTheGraph);
        Desk.held("9 nodes: BAD leaves the RUN", Promise09NodesTest::badLeavesTheRun);
        Desk.held("9 nodes: all arcs go, with as many nodes as before too", Promise09NodesTest::allArcsGo);
        Desk.held("9 nodes: the RUN is gone with nodes()", Promise09NodesTest::runIsGone);
        Desk.held("9 nodes: program and tape stay", Promise09NodesTest::programStays);
        Desk.held("9 nodes: one, and forty of them in a RUN", Promise09NodesTest::oneAndForty);
        Desk.close();
    }

    private static void howManyThereWere() {
        VertexLanguage x = new VertexLanguage();
        int before = 1;
        for (int n : new int[] {1, 2, 39, 40, 40, 1, 40, 20, 1}) {
            Desk.due("nodes(" + n + ")", x.nodes(n), before);
            Desk.due("count(5)", x.count(5), n);
            Desk.due("arc to the last", x.arc(0, n - 1), 0);
            Desk.due("arc from the last", x.arc(n - 1, 0), 1);
            Desk.due("arc beyond the last", x.arc(0, n), Desk.BAD);
            before = n;
        }
    }

    private static void anotherNumber() {
        VertexLanguage x = new VertexLanguage();
        for (int n : new int[] {0, 41, -1, -40, 42, 100, 256, Desk.LEAST, Desk.GREATEST}) {
            Desk.due("nodes(" + n + ")", x.nodes(n), Desk.BAD);
            Desk.due("count(5)", x.count(5), 1);
        }
    }

    private static void badLeavesTheGraph() {
        Desk desk = Desk.with("start { } round { }", 3, 0, 1, 2, 2);
        desk.x.weight(1, 2, 77);
        Desk.due("nodes(41)", desk.x.nodes(41), Desk.BAD);
        Desk.due("nodes(0)", desk.x.nodes(0), Desk.BAD);
        Desk.due("count(5)", desk.x.count(5), 3);
        Desk.due("count(6)", desk.x.count(6), 2);
        Desk.due("weight(1, 2, 0)", desk.x.weight(1, 2, 0), 77);
        Desk.due("arc(1, 1)", desk.x.arc(1, 1), 2);
    }

    private static void badLeavesTheRun() {
        Desk desk = Desk.begun("node a : int = 4 ; fold f : sum ; global g : all ; start { send f 2 along ; } "
            + "round { a = a + f ; }", 2, 0, 1);
        desk.x.run(1);
        String all = desk.everything();
        Desk.due("nodes(0)", desk.x.nodes(0), Desk.BAD);
        Desk.due("nodes(41)", desk.x.nodes(41), Desk.BAD);
        Desk.due("all behind BAD", desk.everything(), all);
        Desk.due("run(1)", desk.x.run(1), 1);
        Desk.due("a", desk.column(0), "4 6");
    }

    private static void allArcsGo() {
        VertexLanguage x = new VertexLanguage();
        for (int n : new int[] {2, 2, 3, 1}) {
            x.arc(0, 0);
            x.arc(0, 0);
            x.weight(1, 3, 5);
            x.nodes(n);
            Desk.due("count(6)", x.count(6), 0);
            Desk.due("weight(0, 0, 9) of no arc", x.weight(0, 0, 9), 0);
            Desk.due("the first arc", x.arc(0, 0), 0);
            Desk.due("the second arc", x.arc(0, 0), 1);
            Desk.due("its number is 0 at first", x.weight(1, 3, 5), 0);
            Desk.due("that of the first too", x.weight(0, 0, 5), 0);
        }
        // full, and empty again
        x.nodes(40);
        for (int i = 0; i < 120; i++) {
            x.arc(i % 40, 0);
        }
        Desk.due("arc() of a full graph", x.arc(0, 0), Desk.FULL);
        Desk.due("nodes(40)", x.nodes(40), 40);
        Desk.due("arc() then", x.arc(0, 0), 0);
        Desk desk = Desk.begun("node d : int = 9 ; node e : int = 9 ; fold f : sum ; start { d = degree ; e = indegree ; "
            + "send f 1 along ; send f 1 against ; } round { }", 3, 0, 1, 0, 1, 2, 0);
        desk.x.nodes(3);
        desk.x.begin(0);
        desk.x.run(1);
        Desk.due("degree", desk.column(0), "0 0 0");
        Desk.due("indegree", desk.column(1), "0 0 0");
        Desk.due("told(2)", desk.x.told(2), 0);
    }

    private static void runIsGone() {
        for (int n : new int[] {1, 2, 40}) {
            Desk desk = Desk.begun("node a : int = 4 ; fold f : sum ; global g : all ; start { } round { }", 2);
            desk.x.run(2);
            Desk.due("nodes(" + n + ")", desk.x.nodes(n), 2);
            Desk.due("told(0)", desk.x.told(0), Desk.BAD);
            Desk.due("run(1)", desk.x.run(1), Desk.BAD);
            Desk.due("undo()", desk.x.undo(), Desk.BAD);
            Desk.due("state(0, 0)", desk.x.state(0, 0), 0);
            Desk.due("message(0, 0)", desk.x.message(0, 0), 0);
            Desk.due("messages(0, 0)", desk.x.messages(0, 0), Desk.BAD);
            Desk.due("global(0)", desk.x.global(0), 0);
            Desk.due("halted(0)", desk.x.halted(0), Desk.BAD);
            Desk.due("begin(1)", desk.x.begin(1), 1);
            Desk.due("told(0) of the new one", desk.x.told(0), 0);
        }
    }

    private static void programStays() {
        Desk desk = Desk.with("column a ; start { halt ; } round { }");
        desk.feed("a");
        Desk.due("nodes(5)", desk.x.nodes(5), 1);
        Desk.due("count(4)", desk.x.count(4), 1);
        Desk.due("print(-1)", desk.x.print(-1), "column a ; start { halt ; } round { }".length());
        Desk.due("name() of what is on the tape", desk.x.name(), 0);
        Desk.due("begin(1)", desk.x.begin(1), 1);
    }

    private static void oneAndForty() {
        for (int n : new int[] {1, 40}) {
            Desk desk = Desk.begun("node a : int = 0 ; global g : sum ; global m : most ; start { a = nodes * 100 + id ; give g 1 ; "
                + "give m id ; } round { }", n);
            Desk.due("run(1)", desk.x.run(1), 1);
            Desk.due("nodes that gave", desk.x.global(0), n);
            Desk.due("the last of them", desk.x.global(1), n - 1);
            Desk.due("its state", desk.x.state(n - 1, 0), n * 100 + n - 1);
            Desk.due("halted(" + (n - 1) + ")", desk.x.halted(n - 1), 0);
            Desk.due("halted(" + n + ")", desk.x.halted(n), Desk.BAD);
        }
    }
}
