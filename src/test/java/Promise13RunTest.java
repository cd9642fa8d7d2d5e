/** Promise 13: so many TURNS (1 .. 100), or till it has ENDED; FAILED; BAD. */
public final class Promise13RunTest {
    public static void main(String[] args) {
        Desk.held("13 run: from 1 to 100 TURNS: how many were done", Promise13RunTest::howMany);
        Desk.held("13 run: BAD: another number; all stays", Promise13RunTest::anotherNumber);
        Desk.held("13 run: BAD: no RUN", Promise13RunTest::noRun);
        Desk.held("13 run: 'start' in TURN 0, 'round' in all others", Promise13RunTest::startAndRound);
        Desk.held("13 run: or till it has ENDED", Promise13RunTest::tillEnded);
        Desk.held("13 run: 0, where it has ENDED", Promise13RunTest::hasEnded);
        Desk.held("13 ENDED: no message is under way and all have halted", Promise13RunTest::ended);
        Desk.held("13 run: FAILED: one failed (those before it are done)", Promise13RunTest::failed);
        Desk.held("13 run: FAILED again, and in TURN 0", Promise13RunTest::failedAgain);
        Desk.held("13 run: many at once are as many one by one", Promise13RunTest::oneByOne);
        Desk.close();
    }

    private static void howMany() {
        Desk desk = Desk.begun("start { } round { }", 2);
        int sum = 0;
        for (int turns : new int[] {1, 2, 50, 99, 100, 100}) {
            Desk.due("run(" + turns + ")", desk.x.run(turns), turns);
            sum += turns;
            Desk.due("told(0)", desk.x.told(0), sum);
        }
    }

    private static void anotherNumber() {
        Desk desk = Desk.begun("node a : int = 4 ; fold f : sum ; global g : sum ; start { send f 2 along ; give g 3 ; } "
            + "round { a = a + f ; send f 1 along ; }", 2, 0, 1);
        for (int round = 0; round < 2; round++) {
            String all = desk.everything();
            for (int turns : new int[] {0, -1, 101, 102, -100, Desk.LEAST, Desk.GREATEST}) {
                Desk.due("run(" + turns + ")", desk.x.run(turns), Desk.BAD);
            }
            Desk.due("all behind them", desk.everything(), all);
            desk.x.run(2);
        }
        Desk ended = Desk.begun("start { halt ; } round { }", 1);
        ended.x.run(1);
        Desk.due("run(0) where it has ENDED", ended.x.run(0), Desk.BAD);
        Desk.due("run(101) where it has ENDED", ended.x.run(101), Desk.BAD);
    }

    private static void noRun() {
        Desk desk = new Desk();
        Desk.due("run(1) of a new object", desk.x.run(1), Desk.BAD);
        desk.load("start { } round { }");
        Desk.due("run(1) without begin()", desk.x.run(1), Desk.BAD);
        Desk.due("run(100) without begin()", desk.x.run(100), Desk.BAD);
        desk.x.begin(1);
        Desk.due("run(1)", desk.x.run(1), 1);
        desk.x.nodes(2);
        Desk.due("run(1) behind nodes()", desk.x.run(1), Desk.BAD);
        desk.x.begin(1);
        desk.x.arc(0, 1);
        Desk.due("run(1) behind arc()", desk.x.run(1), Desk.BAD);
        desk.x.begin(1);
        desk.load("start { } round { }");
        Desk.due("run(1) behind program()", desk.x.run(1), Desk.BAD);
    }

    private static void startAndRound() {
        Desk desk = Desk.begun("node s : int = 0 ; node r : int = 0 ; node t : int = -1 ; start { s = s + 1 ; t = turn ; } "
            + "round { r = r + 1 ; t = turn ; }", 3);
        String[] want = {"1 0 0", "1 1 1", "1 2 2", "1 3 3"};
        for (String row : want) {
            desk.x.run(1);
            Desk.due("states", desk.states(2), row);
        }
        desk.x.run(100);
        Desk.due("states in TURN 103", desk.states(2), "1 103 103");
    }

    private static void tillEnded() {
        for (int last : new int[] {0, 1, 4, 99, 100}) {
            String text = "start { if turn == " + last + " { halt ; } } round { if turn == " + last + " { halt ; } }";
            Desk desk = Desk.begun(text, 3);
            Desk.due("run(100), halting in TURN " + last, desk.x.run(100), Math.min(last + 1, 100));
            Desk.due("told(1)", desk.x.told(1), last < 100 ? 1 : 0);
            if (last < 100) {
                Desk exact = Desk.begun(text, 3);
                Desk.due("run of just so many", exact.x.run(last + 1), last + 1);
                Desk.due("told(1)", exact.x.told(1), 1);
                Desk.due("run(1) then", exact.x.run(1), 0);
            }
        }
    }

    private static void hasEnded() {
        Desk desk = Desk.begun("node n : int = 0 ; start { n = n + 1 ; halt ; } round { n = 100 ; }", 2);
        Desk.due("run(1)", desk.x.run(1), 1);
        String all = desk.everything();
        Desk.due("run(1)", desk.x.run(1), 0);
        Desk.due("run(100)", desk.x.run(100), 0);
        Desk.due("all stays", desk.everything(), all);
        Desk.due("undo()", desk.x.undo(), 0);
        Desk.due("run(100) again", desk.x.run(100), 1);
    }

    private static void ended() {
        // a message to one that has halted: not ENDED; the other one not halted: not ENDED
        Desk desk = Desk.begun("fold f : sum ; start { if id == 0 { send f 1 along ; } halt ; } round { halt ; }", 2, 0, 1);
        desk.x.run(1);
        Desk.due("told(1), with a message under way", desk.x.told(1), 0);
        Desk.due("told(2)", desk.x.told(2), 1);
        Desk.due("told(3)", desk.x.told(3), 2);
        Desk.due("run(100)", desk.x.run(100), 1);
        Desk.due("told(1)", desk.x.told(1), 1);
        desk = Desk.begun("start { if id < 39 { halt ; } } round { if turn == 3 { halt ; } }", 40);
        desk.x.run(1);
        Desk.due("told(3)", desk.x.told(3), 39);
        Desk.due("told(1), with one that has not halted", desk.x.told(1), 0);
        Desk.due("run(100)", desk.x.run(100), 3);
        Desk.due("told(1)", desk.x.told(1), 1);
        // what is given is no message
        desk = Desk.begun("global g : sum ; start { give g 1 ; halt ; } round { }", 2);
        desk.x.run(1);
        Desk.due("told(1), with something given", desk.x.told(1), 1);
        Desk.due("run(1)", desk.x.run(1), 0);
        Desk.due("global(0)", desk.x.global(0), 2);
        // a send where there is no arc is no message
        desk = Desk.begun("fold f : sum ; start { send f 1 along ; send f 1 against ; halt ; } round { }", 2);
        desk.x.run(1);
        Desk.due("told(1), with no arcs", desk.x.told(1), 1);
    }

    private static void failed() {
        Desk desk = Desk.begun("node n : int = 0 ; start { n = 1 ; } round { n = n + 6 / ( 3 - turn ) ; }", 2);
        Desk.due("run(100)", desk.x.run(100), Desk.FAILED);
        Desk.due("told(0): three are done", desk.x.told(0), 3);
        Desk.due("told(8)", desk.x.told(8), 3);
        Desk.due("n", desk.column(0), "10 10");
        desk.x.begin(0);
        Desk.due("run(3)", desk.x.run(3), 3);
        Desk.due("n", desk.column(0), "10 10");
        Desk.due("run(1)", desk.x.run(1), Desk.FAILED);
        Desk.due("n", desk.column(0), "10 10");
        desk.x.begin(0);
        Desk.due("run(4)", desk.x.run(4), Desk.FAILED);
        Desk.due("told(0)", desk.x.told(0), 3);
    }

    private static void failedAgain() {
        Desk desk = Desk.begun("node n : int = 5 ; start { n = n / id ; } round { }", 2);
        for (int i = 0; i < 3; i++) {
            Desk.due("run(5)", desk.x.run(5), Desk.FAILED);
            Desk.due("told(0)", desk.x.told(0), 0);
            Desk.due("told(8)", desk.x.told(8), 0);
            Desk.due("n", desk.column(0), "5 5");
        }
        Desk.due("undo()", desk.x.undo(), Desk.NONE);
        // the last node fails, of forty
        desk = Desk.begun("node n : int = 5 ; start { n = n / ( id - 39 ) ; } round { }", 40);
        Desk.due("run(5)", desk.x.run(5), Desk.FAILED);
        Desk.due("told(5)", desk.x.told(5), 39);
        Desk.due("state(0, 0)", desk.x.state(0, 0), 5);
    }

    private static void oneByOne() {
        String text = "node v : int = 3 ; fold f : sum ; global g : most ; start { send f id + draw ( 100 ) along ; } "
            + "round { v = v * 3 + f + draw ( 50 ) + g % 7 ; give g v ; if v % 5 == 0 { send f v along ; halt ; } send f 1 against ; }";
        Desk one = Desk.begun(text, 3, 0, 1, 1, 2, 2, 0, 2, 1);
        Desk many = Desk.begun(text, 3, 0, 1, 1, 2, 2, 0, 2, 1);
        for (int i = 0; i < 20; i++) {
            Desk.due("run(1)", one.x.run(1), 1);
        }
        Desk.due("run(20)", many.x.run(20), 20);
        Desk.due("all", one.everything(), many.everything());
    }
}
