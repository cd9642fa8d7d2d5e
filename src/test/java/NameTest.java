/** Promise 7 (name): columns, states, folds and globals by their NAMES. */
public final class NameTest {
    public static void main(String[] args) {
        Desk desk = Desk.with("node s : int = 1 ; column a ; column abcdefghijk9 ; node A : bool = true ; fold f : sum ; "
            + "global g : sum ; global gg : all ; fold ff : most ; column b ; node sum1 : int = 2 ; "
            + "start { let x = 1 ; } round { let y = 1 ; }");
        String[] names = {"a", "abcdefghijk9", "b", "s", "A", "sum1", "f", "ff", "g", "gg"};
        int[] want = {0, 1, 2, 100, 101, 102, 200, 201, 300, 301};
        for (int i = 0; i < names.length; i++) {
            Desk.due("name() of " + names[i], desk.find(names[i]), want[i]);
        }
        for (String other : new String[] {"x", "y", "z", "", "abcdefghijk", "abcdefghijk99", "S", "fff", "start", "sum", "1",
            " a", "a ", "a\n", "a;", "node s : int = 1 ; column a ;", "\u00e1"}) {
            Desk.due("name() of '" + other + "'", desk.find(other), Desk.NONE);
        }
        Desk edges = Desk.with("column z ; column Z ; column a0 ; column A9 ; start { } round { }");
        Desk.due("name() of z", edges.find("z"), 0);
        Desk.due("name() of Z", edges.find("Z"), 1);
        Desk.due("name() of a0", edges.find("a0"), 2);
        Desk.due("name() of A9", edges.find("A9"), 3);
        emptiness();
        noProgram();
        newProgram();
        Desk.close();
    }

    private static void emptiness() {
        Desk desk = Desk.with("column a ; start { } round { }");
        desk.find("a");
        Desk.due("the tape behind one that is found", desk.x.feed(0, 0, 0, 0, 0), 20);
        Desk.due("name() of twenty zeros", desk.x.name(), Desk.NONE);
        Desk.due("the tape behind none such", desk.x.feed(0, 0, 0, 0, 0), 20);
        desk.x.end(0);
        Desk.due("name() of an empty tape", desk.x.name(), Desk.NONE);
    }

    private static void noProgram() {
        Desk desk = new Desk();
        desk.feed("start { } round");
        Desk.due("name() without a program", desk.x.name(), Desk.BAD);
        desk.feed(" { }");
        Desk.due("the tape stays: program()", desk.x.program(), 0);
        desk.load("column a ; start { } round { } ;");
        desk.feed("a");
        Desk.due("name() behind a wrong program", desk.x.name(), Desk.BAD);
        Desk.due("the tape stays", desk.x.feed(0, 0, 0, 0, 0), 21);
    }

    private static void newProgram() {
        Desk desk = Desk.with("column a ; node b : int = 1 ; start { } round { }");
        desk.load("node a : int = 1 ; fold c : sum ; start { } round { }");
        Desk.due("a in the new program", desk.find("a"), 100);
        Desk.due("b in the new program", desk.find("b"), Desk.NONE);
        Desk.due("c in the new program", desk.find("c"), 200);
    }
}
