/** Promise 1: an empty tape, no program, one node, no arcs. */
public final class Promise01NewObjectTest {
    public static void main(String[] args) {
        Desk.held("1 a new object: an empty tape", Promise01NewObjectTest::emptyTape);
        Desk.held("1 a new object: no program", Promise01NewObjectTest::noProgram);
        Desk.held("1 a new object: no program, so no RUN", Promise01NewObjectTest::noRun);
        Desk.held("1 a new object: one node", Promise01NewObjectTest::oneNode);
        Desk.held("1 a new object: no arcs", Promise01NewObjectTest::noArcs);
        Desk.held("1 a new object: nothing of another one", Promise01NewObjectTest::nothingOfAnother);
        Desk.close();
    }

    private static void emptyTape() {
        VertexLanguage x = new VertexLanguage();
        Desk.due("end(0)", x.end(0), Desk.BAD);
        Desk.due("end(20)", x.end(20), Desk.BAD);
        Desk.due("feed()", x.feed(0x20202020, 0x20202020, 0x20202020, 0x20202020, 0x20202020), 20);
        x = new VertexLanguage();
        Desk.due("program()", x.program(), -11);
        Desk.due("fault(0)", x.fault(0), 0);
        Desk.due("fault(1)", x.fault(1), 1);
    }

    private static void noProgram() {
        VertexLanguage x = new VertexLanguage();
        Desk.due("print(-1)", x.print(-1), Desk.BAD);
        Desk.due("print(0)", x.print(0), Desk.BAD);
        Desk.due("name()", x.name(), Desk.BAD);
        Desk.due("begin(0)", x.begin(0), Desk.BAD);
        Desk.due("fault(0)", x.fault(0), Desk.NONE);
        Desk.due("fault(1)", x.fault(1), Desk.NONE);
        for (int what = 0; what <= 4; what++) {
            Desk.due("count(" + what + ")", x.count(what), 0);
        }
    }

    private static void noRun() {
        VertexLanguage x = new VertexLanguage();
        Desk.due("run(1)", x.run(1), Desk.BAD);
        Desk.due("undo()", x.undo(), Desk.BAD);
        for (int what = 0; what <= 9; what++) {
            Desk.due("told(" + what + ")", x.told(what), Desk.BAD);
        }
        Desk.due("state(0, 0)", x.state(0, 0), 0);
        Desk.due("message(0, 0)", x.message(0, 0), 0);
        Desk.due("messages(0, 0)", x.messages(0, 0), Desk.BAD);
        Desk.due("global(0)", x.global(0), 0);
        Desk.due("halted(0)", x.halted(0), Desk.BAD);
    }

    private static void oneNode() {
        VertexLanguage x = new VertexLanguage();
        Desk.due("count(5)", x.count(5), 1);
        Desk.due("arc(0, 1)", x.arc(0, 1), Desk.BAD);
        Desk.due("arc(1, 0)", x.arc(1, 0), Desk.BAD);
        Desk.due("arc(0, 0)", x.arc(0, 0), 0);
        Desk.due("nodes(3)", x.nodes(3), 1);
        Desk desk = new Desk();
        desk.load("node a : int = 0 ; global g : sum ; start { a = nodes ; give g 1 ; } round { }");
        Desk.due("begin(1)", desk.x.begin(1), 1);
        Desk.due("run(1)", desk.x.run(1), 1);
        Desk.due("nodes in a program", desk.x.state(0, 0), 1);
        Desk.due("nodes that gave", desk.x.global(0), 1);
        Desk.due("halted(1)", desk.x.halted(1), Desk.BAD);
    }

    private static void noArcs() {
        VertexLanguage x = new VertexLanguage();
        Desk.due("count(6)", x.count(6), 0);
        Desk.due("weight(0, 0, 5)", x.weight(0, 0, 5), 0);
        Desk.due("weight(0, 0, 6)", x.weight(0, 0, 6), 0);
        Desk.due("the first arc's number", x.arc(0, 0), 0);
        Desk.due("its weight(0, 0, 7)", x.weight(0, 0, 7), 0);
    }

    private static void nothingOfAnother() {
        Desk one = Desk.begun("column a ; start { } round { }", 4, 0, 1);
        one.x.run(2);
        one.feed("start {");
        VertexLanguage other = new VertexLanguage();
        Desk.due("count(0)", other.count(0), 0);
        Desk.due("count(5)", other.count(5), 1);
        Desk.due("count(6)", other.count(6), 0);
        Desk.due("told(0)", other.told(0), Desk.BAD);
        Desk.due("feed()", other.feed(1, 2, 3, 4, 5), 20);
        Desk.due("program() of the other", other.program(), -11);
        Desk.due("told(0) of the first", one.x.told(0), 2);
        Desk.due("count(5) of the first", one.x.count(5), 4);
    }
}
