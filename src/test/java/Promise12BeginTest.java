/** Promise 12: a RUN begins: all states as told, no messages, nobody halted, TURN 0. BAD: no program. */
public final class Promise12BeginTest {
    private static final String BUSY = "node v : int = 3 ; node b : bool = true ; fold f : sum ; global g : most ; start { "
        + "v = v + draw ( 1000 ) ; b = false ; send f v along ; give g v ; } round { v = v / ( 2 - turn ) ; if id == 0 { halt ; } "
        + "send f 1 along ; }";

    public static void main(String[] args) {
        Desk.held("12 begin: 1, with any seed", Promise12BeginTest::anySeed);
        Desk.held("12 begin: BAD: no program", Promise12BeginTest::noProgram);
        Desk.held("12 begin: all states as told, at both ends", Promise12BeginTest::statesAsTold);
        Desk.held("12 begin: no messages, nobody halted, TURN 0", Promise12BeginTest::nothingElse);
        Desk.held("12 begin: eight states of forty nodes", Promise12BeginTest::eightOfForty);
        Desk.held("12 begin: anew, with nothing of the RUN before", Promise12BeginTest::anew);
        Desk.held("12 begin: anew, behind any number of TURNS", Promise12BeginTest::anewBehindManyTurns);
        Desk.held("12 begin: the same seed gives the same RUN, another one another", Promise12BeginTest::seeds);
        Desk.held("12 begin: program, graph and tape stay", Promise12BeginTest::allElseStays);
        Desk.close();
    }

    private static void anySeed() {
        Desk desk = Desk.with("start { } round { }");
        for (int seed : new int[] {0, 1, -1, 7, Desk.LEAST, Desk.GREATEST}) {
            Desk.due("begin(" + seed + ")", desk.x.begin(seed), 1);
            Desk.due("told(0)", desk.x.told(0), 0);
            Desk.due("run(1)", desk.x.run(1), 1);
        }
    }

    private static void noProgram() {
        Desk desk = new Desk();
        Desk.due("begin(5) of a new object", desk.x.begin(5), Desk.BAD);
        desk.feed("start { } round { }");
        Desk.due("begin(5) of a tape alone", desk.x.begin(5), Desk.BAD);
        Desk.due("told(0)", desk.x.told(0), Desk.BAD);
        Desk.due("program() of that tape", desk.x.program(), 0);
        Desk.due("begin(5)", desk.x.begin(5), 1);
        for (String wrong : new String[] {"start { } round {", "start { loop 101 { } } round { }", "start { a = 1 ; } round { }"}) {
            desk.load(wrong);
            Desk.due("begin(5) behind " + wrong, desk.x.begin(5), Desk.BAD);
            Desk.due("told(0) behind " + wrong, desk.x.told(0), Desk.BAD);
            Desk.due("run(1) behind " + wrong, desk.x.run(1), Desk.BAD);
        }
    }

    private static void statesAsTold() {
        Desk desk = Desk.begun("node a : int = - 2147483647 ; node b : int = 2147483647 ; node c : int = 0 ; node d : int = - 0 ; "
            + "node e : int = -1 ; node t : bool = true ; node f : bool = false ; start { a = a - 1 ; b = 8 ; c = 8 ; d = 8 ; e = 8 ; "
            + "t = false ; f = true ; } round { }", 2);
        Desk.due("states of 0", desk.states(0), "-2147483647 2147483647 0 0 -1 1 0");
        Desk.due("states of 1", desk.states(1), "-2147483647 2147483647 0 0 -1 1 0");
        desk.x.run(1);
        Desk.due("states of 1 then", desk.states(1), "-2147483648 8 8 8 8 0 1");
        desk.x.begin(0);
        Desk.due("states of 1 anew", desk.states(1), "-2147483647 2147483647 0 0 -1 1 0");
    }

    private static void nothingElse() {
        Desk desk = Desk.begun("fold f : sum ; fold h : least ; fold m : most ; fold a : all ; global g : sum ; global k : least ; "
            + "global n : most ; global o : all ; start { } round { }", 2, 0, 1);
        Desk.due("told(0 .. 9)", desk.told(0, 1, 2, 3, 4, 5, 6, 7, 8, 9), "0 0 0 0 0 0 0 0 0 0");
        int[] nothing = {0, Desk.GREATEST, Desk.LEAST, 1};
        for (int i = 0; i < 4; i++) {
            for (int node = 0; node < 2; node++) {
                Desk.due("messages(" + node + ", " + i + ")", desk.x.messages(node, i), 0);
                Desk.due("message(" + node + ", " + i + ")", desk.x.message(node, i), nothing[i]);
            }
            Desk.due("global(" + i + ")", desk.x.global(i), nothing[i]);
        }
        Desk.due("halted(0)", desk.x.halted(0), 0);
        Desk.due("halted(1)", desk.x.halted(1), 0);
        Desk.due("undo()", desk.x.undo(), Desk.NONE);
    }

    private static void eightOfForty() {
        StringBuilder text = new StringBuilder();
        for (int k = 0; k < 8; k++) {
            text.append("node s").append(k).append(" : int = ").append(k * 11).append(" ; ");
        }
        Desk desk = Desk.begun(text + "start { s0 = id ; s7 = id * 2 ; } round { }", 40);
        for (int node : new int[] {0, 1, 20, 38, 39}) {
            Desk.due("states of " + node, desk.states(node), "0 11 22 33 44 55 66 77");
        }
        desk.x.run(1);
        for (int node : new int[] {0, 1, 38, 39}) {
            Desk.due("states of " + node, desk.states(node), node + " 11 22 33 44 55 66 " + 2 * node);
        }
    }

    private static void anew() {
        Desk desk = Desk.with(BUSY, 2, 0, 1, 1, 0);
        desk.x.begin(5);
        String first = desk.everything();
        Desk.due("run(9)", desk.x.run(9), Desk.FAILED);
        Desk.due("told(4)", desk.x.told(4), 1);
        Desk.due("told(8)", desk.x.told(8), 2);
        Desk.due("begin(5)", desk.x.begin(5), 1);
        Desk.due("all behind begin()", desk.everything(), first);
        Desk.due("undo()", desk.x.undo(), Desk.NONE);
        Desk.due("begin(5) twice", desk.x.begin(5), 1);
        Desk.due("all behind begin()", desk.everything(), first);
    }

    /** Behind any number of TURNS, with all halted and states, messages, globals at other numbers. */
    private static void anewBehindManyTurns() {
        for (int turns = 1; turns <= 20; turns++) {
            Desk desk = Desk.begun("node v : int = 3 ; node b : bool = true ; fold f : most ; global g : all ; start { v = 9 ; } "
                + "round { v = v + 1 ; b = false ; send f v along ; give g false ; halt ; }", 2, 0, 1, 1, 0);
            String first = desk.everything();
            Desk.due("run(" + turns + ")", desk.x.run(turns), turns);
            desk.x.begin(0);
            Desk.due("all behind begin() of TURN " + turns, desk.everything(), first);
        }
    }

    private static void seeds() {
        Desk desk = Desk.with(BUSY, 2, 0, 1, 1, 0);
        desk.x.begin(5);
        desk.x.run(2);
        String once = desk.standing();
        desk.x.begin(6);
        desk.x.run(2);
        Desk.due("with another seed the same", desk.standing().equals(once), false);
        desk.x.begin(5);
        desk.x.run(1);
        desk.x.run(1);
        Desk.due("with the same seed", desk.standing(), once);
    }

    private static void allElseStays() {
        Desk desk = Desk.with("column w ; start { halt ; } round { }", 3, 0, 1);
        desk.x.weight(0, 0, 9);
        desk.feed("w");
        Desk.due("begin(1)", desk.x.begin(1), 1);
        Desk.due("count(4)", desk.x.count(4), 1);
        Desk.due("count(5)", desk.x.count(5), 3);
        Desk.due("count(6)", desk.x.count(6), 1);
        Desk.due("weight(0, 0, 0)", desk.x.weight(0, 0, 0), 9);
        Desk.due("name() of what is on the tape", desk.x.name(), 0);
    }
}
