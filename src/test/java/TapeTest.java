/** Promises 1 (a new object), 2 (feed), 3 (end), and the tape's part in 4 (program) and 7 (name). */
public final class TapeTest {
    public static void main(String[] args) {
        newObject();
        feeding();
        ending();
        bytesInOrder();
        emptied();
        Desk.close();
    }

    private static void newObject() {
        VertexLanguage x = new VertexLanguage();
        Desk.due("new: end(0)", x.end(0), Desk.BAD);
        Desk.due("new: print(-1)", x.print(-1), Desk.BAD);
        Desk.due("new: print(0)", x.print(0), Desk.BAD);
        Desk.due("new: name()", x.name(), Desk.BAD);
        Desk.due("new: fault(0)", x.fault(0), Desk.NONE);
        Desk.due("new: fault(1)", x.fault(1), Desk.NONE);
        Desk.due("new: begin(0)", x.begin(0), Desk.BAD);
        for (int what = 0; what <= 4; what++) {
            Desk.due("new: count(" + what + ")", x.count(what), 0);
        }
        Desk.due("new: count(5)", x.count(5), 1);
        Desk.due("new: count(6)", x.count(6), 0);
        Desk.due("new: arc(0, 0)", x.arc(0, 0), 0);
        Desk.due("new: arc(0, 1)", x.arc(0, 1), Desk.BAD);
        Desk.due("new: nodes(3)", x.nodes(3), 1);
        Desk.due("new: program()", x.program(), -11);
        Desk.due("new: fault(0) of an empty tape", x.fault(0), 0);
        Desk.due("new: fault(1) of an empty tape", x.fault(1), 1);
    }

    private static void feeding() {
        VertexLanguage x = new VertexLanguage();
        for (int i = 1; i <= 200; i++) {
            Desk.due("feed " + i, x.feed(i, -i, 0, Integer.MAX_VALUE, Integer.MIN_VALUE), 20 * i);
        }
        Desk.due("feed 201", x.feed(1, 2, 3, 4, 5), Desk.FULL);
        Desk.due("feed 202", x.feed(0, 0, 0, 0, 0), Desk.FULL);
        Desk.due("end(19) of the full tape", x.end(19), 3999);
        Desk.due("feed above 4,000", x.feed(1, 2, 3, 4, 5), Desk.FULL);
        Desk.due("end(1)", x.end(1), 3980);
        Desk.due("feed up to 4,000", x.feed(1, 2, 3, 4, 5), 4000);
        Desk.due("feed again", x.feed(1, 2, 3, 4, 5), Desk.FULL);
    }

    private static void ending() {
        VertexLanguage x = new VertexLanguage();
        x.feed(0, 0, 0, 0, 0);
        Desk.due("end(-1)", x.end(-1), Desk.BAD);
        Desk.due("end(21)", x.end(21), Desk.BAD);
        Desk.due("end(least)", x.end(Integer.MIN_VALUE), Desk.BAD);
        Desk.due("end(greatest)", x.end(Integer.MAX_VALUE), Desk.BAD);
        Desk.due("end(20)", x.end(20), 20);
        Desk.due("end(19)", x.end(19), 19);
        Desk.due("end(19) of nineteen", x.end(19), Desk.BAD);
        Desk.due("end(0) of nineteen", x.end(0), Desk.BAD);
        Desk.due("feed behind nineteen", x.feed(0, 0, 0, 0, 0), 39);
        Desk.due("end(0)", x.end(0), 19);
        Desk.due("feed", x.feed(0, 0, 0, 0, 0), 39);
        Desk.due("end(2)", x.end(2), 21);
        Desk.due("end(2) once more", x.end(2), 3);
        Desk.due("end(2) of three", x.end(2), Desk.BAD);
    }

    /** The highest byte of each number comes first; end() keeps the first of the last twenty. */
    private static void bytesInOrder() {
        Desk desk = new Desk();
        // "start{le" "t abcdef" "=1;}" and then "round{}" with thirteen that end() takes away
        desk.x.feed(0x73746172, 0x747B6C65, 0x74206162, 0x63646566, 0x3D313B7D);
        desk.x.feed(0x726F756E, 0x647B7D21, 0x21212121, 0x21212121, 0xFFFFFFFF);
        Desk.due("end(7)", desk.x.end(7), 27);
        Desk.due("program()", desk.x.program(), 1);
        Desk.due("printed", desk.printed(), "start { let abcdef = 1 ; } round { }");
    }

    private static void emptied() {
        Desk desk = new Desk();
        desk.feed("start { } round { }");
        Desk.due("program() of a right text", desk.x.program(), 0);
        Desk.due("the tape behind it", desk.x.feed(0, 0, 0, 0, 0), 20);
        Desk.due("program() of a wrong text", desk.x.program(), -11);
        Desk.due("the tape behind that", desk.x.feed(0, 0, 0, 0, 0), 20);
    }
}
