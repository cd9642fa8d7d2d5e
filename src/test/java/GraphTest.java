/** Promises 9 (nodes), 10 (arc), 11 (weight). */
public final class GraphTest {
    public static void main(String[] args) {
        nodes();
        arcs();
        weights();
        whatEndsARun();
        ways();
        Desk.close();
    }

    private static void nodes() {
        VertexLanguage x = new VertexLanguage();
        Desk.due("nodes(0)", x.nodes(0), Desk.BAD);
        Desk.due("nodes(41)", x.nodes(41), Desk.BAD);
        Desk.due("nodes(-1)", x.nodes(-1), Desk.BAD);
        Desk.due("nodes(greatest)", x.nodes(Integer.MAX_VALUE), Desk.BAD);
        Desk.due("nodes(least)", x.nodes(Integer.MIN_VALUE), Desk.BAD);
        Desk.due("count(5)", x.count(5), 1);
        Desk.due("nodes(40)", x.nodes(40), 1);
        Desk.due("nodes(2)", x.nodes(2), 40);
        Desk.due("arc(0, 1)", x.arc(0, 1), 0);
        Desk.due("arc(1, 0)", x.arc(1, 0), 1);
        Desk.due("nodes(41) with arcs", x.nodes(41), Desk.BAD);
        Desk.due("the arcs stay", x.count(6), 2);
        Desk.due("nodes(2) again", x.nodes(2), 2);
        Desk.due("all arcs go", x.count(6), 0);
        Desk.due("arc(0, 1) anew", x.arc(0, 1), 0);
        Desk.due("nodes(1)", x.nodes(1), 2);
        Desk.due("arc(0, 1) of one node", x.arc(0, 1), Desk.BAD);
    }

    private static void arcs() {
        VertexLanguage x = new VertexLanguage();
        x.nodes(40);
        Desk.due("arc(-1, 0)", x.arc(-1, 0), Desk.BAD);
        Desk.due("arc(0, -1)", x.arc(0, -1), Desk.BAD);
        Desk.due("arc(40, 0)", x.arc(40, 0), Desk.BAD);
        Desk.due("arc(0, 40)", x.arc(0, 40), Desk.BAD);
        Desk.due("arc(least, greatest)", x.arc(Integer.MIN_VALUE, Integer.MAX_VALUE), Desk.BAD);
        for (int i = 0; i < 120; i++) {
            Desk.due("arc " + i, x.arc(i % 40, 39 - i % 7), i);
        }
        Desk.due("arc 120", x.arc(0, 0), Desk.FULL);
        Desk.due("arc 120, no such node", x.arc(0, 40), Desk.BAD);
        Desk.due("count(6)", x.count(6), 120);
        x.nodes(3);
        Desk.due("an arc to itself", x.arc(2, 2), 0);
        Desk.due("the same arc once more", x.arc(2, 2), 1);
    }

    private static void weights() {
        VertexLanguage x = new VertexLanguage();
        Desk.due("weight without arcs", x.weight(0, 0, 5), 0);
        x.nodes(2);
        x.arc(0, 1);
        x.arc(1, 0);
        for (int column = 0; column < 4; column++) {
            Desk.due("weight(1, " + column + ") at first", x.weight(1, column, 10 + column), 0);
        }
        Desk.due("weight(0, 0)", x.weight(0, 0, -7), 0);
        Desk.due("weight(0, 0) again", x.weight(0, 0, Integer.MIN_VALUE), -7);
        Desk.due("weight(0, 0) once more", x.weight(0, 0, 1), Integer.MIN_VALUE);
        for (int column = 0; column < 4; column++) {
            Desk.due("weight(1, " + column + ") again", x.weight(1, column, 0), 10 + column);
        }
        Desk.due("weight(2, 0)", x.weight(2, 0, 9), 0);
        Desk.due("weight(-1, 0)", x.weight(-1, 0, 9), 0);
        Desk.due("weight(0, 4)", x.weight(0, 4, 9), 0);
        Desk.due("weight(0, -1)", x.weight(0, -1, 9), 0);
        Desk.due("weight(least, greatest)", x.weight(Integer.MIN_VALUE, Integer.MAX_VALUE, 9), 0);
        Desk.due("weight(0, 0) stays", x.weight(0, 0, 1), 1);
        Desk.due("weight(1, 0) stays", x.weight(1, 0, 0), 0);
        Desk.due("weight(0, 3) stays", x.weight(0, 3, 0), 0);
        x.arc(0, 0);
        Desk.due("weight of a new arc: 0, not what a wrong call told", x.weight(2, 0, 1), 0);
        x.nodes(2);
        x.arc(0, 1);
        Desk.due("weight of an arc in a new graph", x.weight(0, 0, 1), 0);
    }

    private static void whatEndsARun() {
        Desk desk = Desk.with("column w ; node a : int = 0 ; fold f : sum ; start { send f arc . w along ; } "
            + "round { a = f ; }", 2, 0, 1);
        desk.x.begin(1);
        Desk.due("weight() in a RUN", desk.x.weight(0, 0, 5), 0);
        Desk.due("the RUN goes on", desk.x.run(2), 2);
        Desk.due("with that weight", desk.x.state(1, 0), 5);
        Desk.due("nodes(0) in a RUN", desk.x.nodes(0), Desk.BAD);
        Desk.due("arc(0, 2) in a RUN", desk.x.arc(0, 2), Desk.BAD);
        Desk.due("wrong calls leave it", desk.x.told(0), 2);
        Desk.due("undo() leaves a weight", desk.x.undo(), 1);
        Desk.due("weight() behind undo()", desk.x.weight(0, 0, 6), 5);
        Desk.due("arc(1, 0)", desk.x.arc(1, 0), 1);
        Desk.due("the RUN is gone with arc()", desk.x.told(0), Desk.BAD);
        Desk.due("run() then", desk.x.run(1), Desk.BAD);
        Desk.due("begin()", desk.x.begin(1), 1);
        Desk.due("nodes(2)", desk.x.nodes(2), 2);
        Desk.due("the RUN is gone with nodes()", desk.x.told(0), Desk.BAD);
        Desk.due("the program stays", desk.x.begin(1), 1);
    }

    /** Arcs by rising number, along and against; degree and indegree. */
    private static void ways() {
        Desk desk = Desk.with("node d : int = 0 ; node e : int = 0 ; node n : int = 0 ; fold f : first ; fold h : first ; "
            + "start { d = degree ; e = indegree ; n = nodes ; send f id along ; send h id against ; } "
            + "round { d = f ; e = h ; n = if ( has f , 1 , 0 ) + if ( has h , 2 , 0 ) ; }",
            4, 2, 0, 1, 0, 2, 1, 1, 1, 2, 0);
        desk.x.begin(0);
        desk.x.run(1);
        Desk.due("degree", desk.column(0), "0 2 3 0");
        Desk.due("indegree", desk.column(1), "3 2 0 0");
        Desk.due("nodes", desk.column(2), "4 4 4 4");
        Desk.due("messages(0, 0)", desk.x.messages(0, 0), 3);
        Desk.due("messages(1, 1)", desk.x.messages(1, 1), 2);
        Desk.due("messages(2, 1)", desk.x.messages(2, 1), 3);
        desk.x.run(1);
        Desk.due("first along", desk.column(0), "1 1 0 0");
        Desk.due("first against", desk.column(1), "0 0 0 0");
        Desk.due("has", desk.column(2), "1 3 2 0");
    }
}
