/** Promises 15 (told), 16 (state), 17 (message), 18 (messages), 19 (global), 20 (halted): answers and wrong inputs. */
public final class ReadingTest {
    private static final int[] WRONG = {-1, Integer.MIN_VALUE, Integer.MAX_VALUE};

    public static void main(String[] args) {
        noRun();
        told();
        wrongNumbers();
        answers();
        Desk.close();
    }

    private static void noneOf(String when, VertexLanguage x) {
        for (int what = 0; what <= 9; what++) {
            Desk.due(when + ": told(" + what + ")", x.told(what), Desk.BAD);
        }
        Desk.due(when + ": state(0, 0)", x.state(0, 0), 0);
        Desk.due(when + ": message(0, 0)", x.message(0, 0), 0);
        Desk.due(when + ": messages(0, 0)", x.messages(0, 0), Desk.BAD);
        Desk.due(when + ": global(0)", x.global(0), 0);
        Desk.due(when + ": halted(0)", x.halted(0), Desk.BAD);
    }

    private static void noRun() {
        Desk desk = new Desk();
        noneOf("a new object", desk.x);
        desk.load("node a : int = 5 ; fold f : least ; global g : all ; start { halt ; } round { }");
        noneOf("no RUN yet", desk.x);
        desk.x.begin(1);
        Desk.due("state(0, 0)", desk.x.state(0, 0), 5);
        Desk.due("message(0, 0)", desk.x.message(0, 0), 2147483647);
        Desk.due("messages(0, 0)", desk.x.messages(0, 0), 0);
        Desk.due("global(0)", desk.x.global(0), 1);
        Desk.due("halted(0)", desk.x.halted(0), 0);
        desk.x.arc(0, 0);
        noneOf("behind arc()", desk.x);
        desk.x.begin(1);
        desk.x.nodes(1);
        noneOf("behind nodes()", desk.x);
        desk.x.begin(1);
        desk.load("node a : int = 5 ; fold f : least ; global g : all ; start { halt ; } round { }");
        noneOf("behind program()", desk.x);
    }

    private static void told() {
        String text = "fold f : sum ; fold h : all ; start { send f id along ; send h true against ; "
            + "if id > 0 { halt ; } } round { if turn == 3 { let a = 1 % ( id - 1 ) ; } }";
        Desk desk = Desk.with(text, 3, 0, 1, 0, 1, 2, 2);
        desk.x.begin(9);
        int[][] rows = {{0, 0, 0, 0, 0, 0, 0, 0, 0, 0}, {1, 0, 6, 2, 0, 0, 0, 0, 1, 32}, {2, 0, 0, 0, 0, 0, 0, 0, 2, 12},
            {3, 0, 0, 0, 0, 0, 0, 0, 3, 12}};
        for (int[] row : rows) {
            for (int what = 0; what < row.length; what++) {
                Desk.due("told(" + what + ") ahead of turn " + row[0], desk.x.told(what), row[what]);
            }
            for (int what : new int[] {-1, 10, 11, Integer.MIN_VALUE, Integer.MAX_VALUE}) {
                Desk.due("told(" + what + ")", desk.x.told(what), Desk.BAD);
            }
            Desk.due("run(1)", desk.x.run(1), row[0] == 3 ? Desk.FAILED : 1);
        }
        int[] failed = {3, 0, 0, 0, 1, 1, text.indexOf('%'), 3, 3, 12};
        for (int what = 0; what < failed.length; what++) {
            Desk.due("told(" + what + ") behind the FAILURE", desk.x.told(what), failed[what]);
        }
    }

    private static void wrongNumbers() {
        Desk desk = Desk.with("node a : int = 5 ; node b : bool = true ; fold f : least ; global g : all ; "
            + "start { } round { }", 2);
        desk.x.begin(1);
        for (int wrong : WRONG) {
            Desk.due("state(" + wrong + ", 0)", desk.x.state(wrong, 0), 0);
            Desk.due("state(0, " + wrong + ")", desk.x.state(0, wrong), 0);
            Desk.due("message(" + wrong + ", 0)", desk.x.message(wrong, 0), 0);
            Desk.due("message(0, " + wrong + ")", desk.x.message(0, wrong), 0);
            Desk.due("messages(" + wrong + ", 0)", desk.x.messages(wrong, 0), Desk.BAD);
            Desk.due("messages(0, " + wrong + ")", desk.x.messages(0, wrong), Desk.BAD);
            Desk.due("global(" + wrong + ")", desk.x.global(wrong), 0);
            Desk.due("halted(" + wrong + ")", desk.x.halted(wrong), Desk.BAD);
        }
        Desk.due("state(1, 1)", desk.x.state(1, 1), 1);
        Desk.due("state(2, 0)", desk.x.state(2, 0), 0);
        Desk.due("state(0, 2)", desk.x.state(0, 2), 0);
        Desk.due("message(1, 0)", desk.x.message(1, 0), 2147483647);
        Desk.due("message(2, 0)", desk.x.message(2, 0), 0);
        Desk.due("message(0, 1)", desk.x.message(0, 1), 0);
        Desk.due("messages(1, 0)", desk.x.messages(1, 0), 0);
        Desk.due("messages(2, 0)", desk.x.messages(2, 0), Desk.BAD);
        Desk.due("messages(0, 1)", desk.x.messages(0, 1), Desk.BAD);
        Desk.due("global(0)", desk.x.global(0), 1);
        Desk.due("global(1)", desk.x.global(1), 0);
        Desk.due("halted(1)", desk.x.halted(1), 0);
        Desk.due("halted(2)", desk.x.halted(2), Desk.BAD);
    }

    private static void answers() {
        Desk desk = Desk.with("node a : int = 5 ; node b : bool = true ; fold f : least ; fold h : some ; fold s : sum ; global g : all ; "
            + "global m : most ; start { a = id * id ; b = id % 2 == 0 ; send f id - 4 along ; send h id == 1 along ; "
            + "give g id < 2 ; give m - id ; if id == 2 { halt ; } } round { }", 3, 0, 1, 1, 2, 2, 0, 1, 0, 2, 0);
        desk.x.begin(1);
        desk.x.run(1);
        Desk.due("state(., 0)", desk.column(0), "0 1 4");
        Desk.due("state(., 1)", desk.column(1), "1 0 1");
        int[][] folds = {{-3, 1, 0}, {-4, 0, 0}, {-3, 1, 0}};
        int[][] counts = {{3, 3, 0}, {1, 1, 0}, {1, 1, 0}};
        for (int node = 0; node < 3; node++) {
            for (int fold = 0; fold < 3; fold++) {
                Desk.due("message(" + node + ", " + fold + ")", desk.x.message(node, fold), folds[node][fold]);
                Desk.due("messages(" + node + ", " + fold + ")", desk.x.messages(node, fold), counts[node][fold]);
            }
            Desk.due("halted(" + node + ")", desk.x.halted(node), node == 2 ? 1 : 0);
        }
        Desk.due("global(0)", desk.x.global(0), 0);
        Desk.due("global(1)", desk.x.global(1), 0);
        Desk.due("told(2)", desk.x.told(2), 10);
        desk.x.run(1);
        Desk.due("global(0) where nothing was given", desk.x.global(0), 1);
        Desk.due("global(1) where nothing was given", desk.x.global(1), -2147483648);
        Desk.due("halted(2): it was woken", desk.x.halted(2), 0);
    }
}
