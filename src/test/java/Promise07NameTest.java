/** Promise 7: the column, state, fold, global whose NAME has just the bytes of the tape: its sort and its number. */
public final class Promise07NameTest {
    private static final String MIXED = "node s : int = 1 ; column a ; column abcdefghijk9 ; node A : bool = true ; "
        + "fold f : sum ; global g : sum ; global gg : all ; fold ff : most ; column b ; node sum1 : int = 2 ; "
        + "start { let x = 1 ; } round { let y = 1 ; }";

    public static void main(String[] args) {
        Desk.held("7 name: 100 times its sort (0 .. 3) and its number", Promise07NameTest::sortAndNumber);
        Desk.held("7 name: the first and the last of each sort", Promise07NameTest::firstAndLast);
        Desk.held("7 name: NONE: none such: not just the bytes", Promise07NameTest::noneSuch);
        Desk.held("7 name: NONE: none such: lets, and words", Promise07NameTest::letsAndWords);
        Desk.held("7 name: NONE: an empty tape, and a full one", Promise07NameTest::emptyAndFull);
        Desk.held("7 name: a program that tells none", Promise07NameTest::nothingTold);
        Desk.held("7 name: the tape is empty then", Promise07NameTest::tapeIsEmpty);
        Desk.held("7 name: BAD: no program (the tape stays)", Promise07NameTest::noProgram);
        Desk.held("7 name: of the latest program", Promise07NameTest::latest);
        Desk.held("7 name: program and RUN stay", Promise07NameTest::allElseStays);
        Desk.close();
    }

    private static void sortAndNumber() {
        Desk desk = Desk.with(MIXED);
        String[] names = {"a", "abcdefghijk9", "b", "s", "A", "sum1", "f", "ff", "g", "gg"};
        int[] want = {0, 1, 2, 100, 101, 102, 200, 201, 300, 301};
        for (int i = 0; i < names.length; i++) {
            Desk.due("name() of " + names[i], desk.find(names[i]), want[i]);
        }
        Desk.due("name() of a again", desk.find("a"), 0);
    }

    private static void firstAndLast() {
        StringBuilder text = new StringBuilder();
        for (int i = 0; i < 8; i++) {
            text.append("node n").append(i).append(":int=1;");
            if (i < 4) {
                text.append("global g").append(i).append(":sum;fold f").append(i).append(":sum;column c").append(i).append(";");
            }
        }
        Desk desk = Desk.with(text.append("start{}round{}").toString());
        for (int i = 0; i < 8; i++) {
            Desk.due("name() of n" + i, desk.find("n" + i), 100 + i);
            Desk.due("name() of c" + i, desk.find("c" + i), i < 4 ? i : Desk.NONE);
            Desk.due("name() of f" + i, desk.find("f" + i), i < 4 ? 200 + i : Desk.NONE);
            Desk.due("name() of g" + i, desk.find("g" + i), i < 4 ? 300 + i : Desk.NONE);
        }
        desk = Desk.with("column z ; column Z ; column a0 ; column A9 ; start { } round { }");
        String[] edges = {"z", "Z", "a0", "A9"};
        for (int i = 0; i < edges.length; i++) {
            Desk.due("name() of " + edges[i], desk.find(edges[i]), i);
        }
    }

    private static void noneSuch() {
        Desk desk = Desk.with(MIXED);
        for (String other : new String[] {"z", "abcdefghijk", "abcdefghijk99", "abcdefghijk8", "abcdefghijK9", "S", "B", "fff",
            " a", "a ", "a\n", "\na", "a;", "a a", "aa", "a\0", "#a", "\u00e1", "abcdefghijk9abcdefghijk9",
            "node s : int = 1 ; column a ;"}) {
            Desk.due("name() of '" + other + "'", desk.find(other), Desk.NONE);
        }
    }

    private static void letsAndWords() {
        Desk desk = Desk.with(MIXED);
        for (String other : new String[] {"x", "y", "start", "sum", "int", "node", "1", ";", "{"}) {
            Desk.due("name() of '" + other + "'", desk.find(other), Desk.NONE);
        }
    }

    private static void emptyAndFull() {
        Desk desk = Desk.with("column a ; start { } round { }");
        Desk.due("name() of an empty tape", desk.x.name(), Desk.NONE);
        desk.feed("a".repeat(4000));
        Desk.due("name() of a full one", desk.x.name(), Desk.NONE);
        Desk.due("name() of a", desk.find("a"), 0);
    }

    private static void nothingTold() {
        Desk desk = Desk.with("start { } round { }");
        Desk.due("name() of a", desk.find("a"), Desk.NONE);
        Desk.due("name() of an empty tape", desk.find(""), Desk.NONE);
    }

    private static void tapeIsEmpty() {
        Desk desk = Desk.with("column a ; start { } round { }");
        desk.find("a");
        Desk.due("the tape behind one that is found", desk.x.feed(0, 0, 0, 0, 0), 20);
        Desk.due("name() of twenty zeros", desk.x.name(), Desk.NONE);
        Desk.due("end(0) behind none such", desk.x.end(0), Desk.BAD);
        Desk.due("the tape behind none such", desk.x.feed(0, 0, 0, 0, 0), 20);
    }

    private static void noProgram() {
        Desk desk = new Desk();
        Desk.due("name() of an empty tape", desk.x.name(), Desk.BAD);
        desk.feed("start { } round");
        Desk.due("name() without a program", desk.x.name(), Desk.BAD);
        desk.feed(" { }");
        Desk.due("the tape stays: program()", desk.x.program(), 0);
        desk.load("column a ; start { } round { } ;");
        desk.feed("a");
        Desk.due("name() behind a wrong program", desk.x.name(), Desk.BAD);
        Desk.due("name() once more", desk.x.name(), Desk.BAD);
        Desk.due("the tape stays", desk.x.feed(0, 0, 0, 0, 0), 21);
    }

    private static void latest() {
        Desk desk = Desk.with("column a ; node b : int = 1 ; start { } round { }");
        desk.load("node a : int = 1 ; fold c : sum ; start { } round { }");
        Desk.due("a in the new program", desk.find("a"), 100);
        Desk.due("b in the new program", desk.find("b"), Desk.NONE);
        Desk.due("c in the new program", desk.find("c"), 200);
    }

    private static void allElseStays() {
        Desk desk = Desk.begun("node a : int = 4 ; fold f : sum ; global g : all ; start { send f 2 along ; } round { }", 2, 0, 1);
        desk.x.run(1);
        String all = desk.everything();
        Desk.due("name() of a", desk.find("a"), 100);
        Desk.due("all behind it", desk.everything(), all);
        Desk.due("name() of b", desk.find("b"), Desk.NONE);
        Desk.due("all behind NONE", desk.everything(), all);
    }
}
