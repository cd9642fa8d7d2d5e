/** Promise 8: how many columns, states, folds, globals, statements, nodes, arcs. */
public final class Promise08CountTest {
    public static void main(String[] args) {
        Desk.held("8 count: 0 columns, 1 states, 2 folds, 3 globals, 4 statements, 5 nodes, 6 arcs", Promise08CountTest::counts);
        Desk.held("8 count: the fewest and the most of each", Promise08CountTest::fewestAndMost);
        Desk.held("8 count: BAD: another number", Promise08CountTest::anotherNumber);
        Desk.held("8 count: without a program there are none of it", Promise08CountTest::noProgram);
        Desk.held("8 count: lets are none of them, and what a refused call told is not there", Promise08CountTest::notCounted);
        Desk.held("8 count: of the latest program", Promise08CountTest::latest);
        Desk.close();
    }

    private static void due(String when, Desk desk, int... want) {
        for (int what = 0; what < want.length; what++) {
            Desk.due(when + ": count(" + what + ")", desk.x.count(what), want[what]);
        }
    }

    private static void counts() {
        Desk desk = Desk.with("column a ; column b ; column c ; node d : int = 1 ; node e : bool = true ; fold f : sum ; "
            + "start { let x = 1 ; } round { loop 2 { halt ; } }", 7, 0, 1, 6, 6);
        due("a program and a graph", desk, 3, 2, 1, 0, 3, 7, 2);
        desk.x.begin(1);
        desk.x.run(1);
        due("within a RUN", desk, 3, 2, 1, 0, 3, 7, 2);
    }

    private static void fewestAndMost() {
        Desk desk = Desk.with("start{}round{}");
        due("the fewest", desk, 0, 0, 0, 0, 0, 1, 0);
        StringBuilder text = new StringBuilder();
        for (int i = 0; i < 8; i++) {
            text.append("node n").append(i).append(":int=1;");
            if (i < 4) {
                text.append("global g").append(i).append(":sum;fold f").append(i).append(":sum;column c").append(i).append(";");
            }
        }
        desk = Desk.with(text + "start{" + "halt;".repeat(120) + "}round{}", 40);
        for (int i = 0; i < 120; i++) {
            desk.x.arc(i % 40, i / 3);
        }
        due("the most", desk, 4, 8, 4, 4, 120, 40, 120);
    }

    private static void anotherNumber() {
        for (String text : new String[] {null, "column a ; start { } round { }"}) {
            Desk desk = new Desk();
            if (text != null) {
                desk.load(text);
            }
            for (int what : new int[] {-1, 7, 8, 100, Desk.LEAST, Desk.GREATEST}) {
                Desk.due("count(" + what + ")", desk.x.count(what), Desk.BAD);
            }
        }
    }

    private static void noProgram() {
        due("a new object", new Desk(), 0, 0, 0, 0, 0, 1, 0);
        Desk desk = Desk.with("column a ; start { halt ; } round { }", 7, 0, 1, 6, 6);
        desk.load("column a ; column b ; node n : int = 1 ; fold f : sum ; global g : all ; start { halt ; } round { } halt");
        due("a wrong one, FAULT 1 at its end", desk, 0, 0, 0, 0, 0, 7, 2);
        desk.load("column a ; column b ; node n : int = 1 ; fold f : sum ; global g : all ; start { x = 1 ; } round { }");
        due("a wrong one, FAULT 4", desk, 0, 0, 0, 0, 0, 7, 2);
    }

    private static void notCounted() {
        Desk desk = Desk.with("node n : int = 1 ; start { let x = 1 ; let y = 1 ; } round { let x = 1 ; }", 2, 0, 1);
        due("lets", desk, 0, 1, 0, 0, 3, 2, 1);
        desk.x.nodes(41);
        desk.x.nodes(0);
        desk.x.arc(0, 2);
        desk.x.arc(-1, 0);
        desk.x.weight(1, 0, 5);
        due("refused calls", desk, 0, 1, 0, 0, 3, 2, 1);
    }

    private static void latest() {
        Desk desk = Desk.with("column a ; column b ; fold f : sum ; start { halt ; halt ; } round { }");
        desk.feed("global g : all ; global h : all ; start { halt ; } round { }");
        due("with another one on the tape", desk, 2, 0, 1, 0, 2, 1, 0);
        desk.x.program();
        due("with the other one", desk, 0, 0, 0, 2, 1, 1, 0);
    }
}
