/** Promise 11: an arc's number in column 0 .. 3 (whatever the program has): what it was. BAD (0 here): none such. */
public final class Promise11WeightTest {
    public static void main(String[] args) {
        Desk.held("11 weight: what it was, 0 at first", Promise11WeightTest::whatItWas);
        Desk.held("11 weight: numbers at both ends", Promise11WeightTest::bothEnds);
        Desk.held("11 weight: each arc and each column has its own", Promise11WeightTest::itsOwn);
        Desk.held("11 weight: column 0 .. 3, whatever the program has", Promise11WeightTest::whateverTheProgramHas);
        Desk.held("11 weight: BAD (0 here): no such arc", Promise11WeightTest::noSuchArc);
        Desk.held("11 weight: BAD (0 here): no such column", Promise11WeightTest::noSuchColumn);
        Desk.held("11 weight: a new arc's are 0, whatever wrong calls told", Promise11WeightTest::newArcs);
        Desk.held("11 weight: the RUN goes on, with the new number", Promise11WeightTest::runGoesOn);
        Desk.held("11 weight: undo() and begin() leave it", Promise11WeightTest::undoLeavesIt);
        Desk.held("11 weight: the columns of a program are numbered as they are told", Promise11WeightTest::columns);
        Desk.close();
    }

    private static VertexLanguage withArcs(int arcs) {
        VertexLanguage x = new VertexLanguage();
        x.nodes(2);
        for (int i = 0; i < arcs; i++) {
            x.arc(0, 1);
        }
        return x;
    }

    private static void whatItWas() {
        VertexLanguage x = withArcs(2);
        Desk.due("weight(0, 0, 5)", x.weight(0, 0, 5), 0);
        Desk.due("weight(0, 0, -7)", x.weight(0, 0, -7), 5);
        Desk.due("weight(0, 0, -7) again", x.weight(0, 0, -7), -7);
        Desk.due("weight(0, 0, 0)", x.weight(0, 0, 0), -7);
        Desk.due("weight(0, 0, 1)", x.weight(0, 0, 1), 0);
    }

    private static void bothEnds() {
        VertexLanguage x = withArcs(1);
        int before = 0;
        for (int v : new int[] {Desk.LEAST, Desk.GREATEST, -1, Desk.LEAST + 1, Desk.GREATEST - 1, Desk.BAD, Desk.NONE, 0}) {
            Desk.due("weight(0, 3, " + v + ")", x.weight(0, 3, v), before);
            before = v;
        }
    }

    private static void itsOwn() {
        VertexLanguage x = withArcs(120);
        int[] arcs = {0, 1, 2, 59, 118, 119};
        for (int round = 0; round < 2; round++) {
            for (int arc : arcs) {
                for (int column = 0; column < 4; column++) {
                    int v = arc * 10 + column + 1;
                    Desk.due("weight(" + arc + ", " + column + ")", x.weight(arc, column, v), round == 0 ? 0 : v);
                }
            }
        }
    }

    private static void whateverTheProgramHas() {
        Desk desk = new Desk();
        desk.x = withArcs(1);
        for (String text : new String[] {"start { } round { }", "column a ; start { } round { }",
            "column a ; column b ; column c ; column d ; start { } round { }", "start {"}) {
            desk.load(text);
            for (int column = 0; column < 4; column++) {
                desk.x.weight(0, column, 8);
                Desk.due("weight(0, " + column + ") with " + text, desk.x.weight(0, column, 0), 8);
            }
            Desk.due("weight(0, 4) with " + text, desk.x.weight(0, 4, 8), 0);
            Desk.due("weight(0, 4) again with " + text, desk.x.weight(0, 4, 8), 0);
        }
    }

    private static void noSuchArc() {
        VertexLanguage x = new VertexLanguage();
        Desk.due("weight(0, 0, 5) of no arcs", x.weight(0, 0, 5), 0);
        for (int arcs : new int[] {1, 2, 119, 120}) {
            x = withArcs(arcs);
            x.weight(0, 0, 3);
            x.weight(arcs - 1, 3, 4);
            for (int wrong : new int[] {-1, arcs, arcs + 1, 121, Desk.LEAST, Desk.GREATEST}) {
                for (int column = 0; column < 4; column++) {
                    Desk.due("weight(" + wrong + ", " + column + ", 5)", x.weight(wrong, column, 5), 0);
                    Desk.due("weight(" + wrong + ", " + column + ", 5) again", x.weight(wrong, column, 5), 0);
                }
            }
            Desk.due("the first stays", x.weight(0, 0, 3), 3);
            Desk.due("the last stays", x.weight(arcs - 1, 3, 4), 4);
        }
    }

    private static void noSuchColumn() {
        VertexLanguage x = withArcs(3);
        for (int arc = 0; arc < 3; arc++) {
            for (int column = 0; column < 4; column++) {
                x.weight(arc, column, 9);
            }
        }
        for (int wrong : new int[] {-1, 4, 5, -4, 8, Desk.LEAST, Desk.GREATEST}) {
            Desk.due("weight(1, " + wrong + ", 5)", x.weight(1, wrong, 5), 0);
            Desk.due("weight(1, " + wrong + ", 5) again", x.weight(1, wrong, 5), 0);
        }
        Desk.due("weight(least, greatest)", x.weight(Desk.LEAST, Desk.GREATEST, 5), 0);
        for (int arc = 0; arc < 3; arc++) {
            for (int column = 0; column < 4; column++) {
                Desk.due("weight(" + arc + ", " + column + ") stays", x.weight(arc, column, 9), 9);
            }
        }
    }

    private static void newArcs() {
        VertexLanguage x = withArcs(1);
        x.weight(1, 0, 9);
        x.weight(0, 4, 9);
        x.arc(0, 0);
        Desk.due("weight of a new arc", x.weight(1, 0, 1), 0);
        x.nodes(2);
        x.arc(0, 1);
        x.arc(0, 1);
        Desk.due("weight of an arc in a new graph", x.weight(1, 0, 1), 0);
    }

    private static void runGoesOn() {
        Desk desk = Desk.begun("column w ; node a : int = 0 ; fold f : sum ; start { send f arc . w along ; } "
            + "round { a = f ; send f arc . w along ; }", 2, 0, 1);
        Desk.due("weight() in a RUN", desk.x.weight(0, 0, 5), 0);
        Desk.due("told(0)", desk.x.told(0), 0);
        Desk.due("run(1)", desk.x.run(1), 1);
        Desk.due("message(1, 0)", desk.x.message(1, 0), 5);
        Desk.due("weight() under way", desk.x.weight(0, 0, 6), 5);
        Desk.due("what is under way stays", desk.x.message(1, 0), 5);
        Desk.due("run(1)", desk.x.run(1), 1);
        Desk.due("a", desk.x.state(1, 0), 5);
        Desk.due("message(1, 0) with the new number", desk.x.message(1, 0), 6);
        Desk.due("a wrong weight()", desk.x.weight(1, 0, 6), 0);
        Desk.due("told(0)", desk.x.told(0), 2);
    }

    private static void undoLeavesIt() {
        Desk desk = Desk.begun("column w ; node a : int = 0 ; fold f : sum ; start { send f arc . w along ; } "
            + "round { a = f ; }", 2, 0, 1);
        desk.x.run(1);
        desk.x.weight(0, 0, 8);
        Desk.due("undo()", desk.x.undo(), 0);
        Desk.due("run(1)", desk.x.run(1), 1);
        Desk.due("message(1, 0)", desk.x.message(1, 0), 8);
        desk.x.begin(1);
        Desk.due("weight() behind them", desk.x.weight(0, 0, 0), 8);
    }

    private static void columns() {
        Desk desk = Desk.with("column v ; node n : int = 0 ; column w ; fold f : sum ; fold h : most ; column x ; column y ; "
            + "start { send f ( ( arc . v * 10 + arc . w ) * 10 + arc . x ) * 10 + arc . y along ; "
            + "send h arc . w against ; } round { }", 3, 0, 1, 0, 1, 1, 2);
        for (int arc = 0; arc < 3; arc++) {
            for (int column = 0; column < 4; column++) {
                desk.x.weight(arc, column, arc + column + 1);
            }
        }
        desk.x.begin(0);
        desk.x.run(1);
        Desk.due("message(1, 0)", desk.x.message(1, 0), 1234 + 2345);
        Desk.due("message(2, 0)", desk.x.message(2, 0), 3456);
        Desk.due("message(0, 1)", desk.x.message(0, 1), 3);
        Desk.due("message(1, 1)", desk.x.message(1, 1), 4);
        Desk.due("messages(0, 1)", desk.x.messages(0, 1), 2);
    }
}
