/** Promise 13, on what it rests: what a TURN does, what nodes read in it, and the numbers they work out. */
public final class Promise13TurnTest {
    private static final String MIN = "( - 2147483647 - 1 )";
    private static final String MAX = "2147483647";

    public static void main(String[] args) {
        Desk.held("13 a TURN: nodes by rising number", Promise13TurnTest::risingNumber);
        Desk.held("13 a TURN: each that has not halted, or to which messages came", Promise13TurnTest::halting);
        Desk.held("13 a TURN: one that was woken has not halted then", Promise13TurnTest::woken);
        Desk.held("13 a TURN: what is read of folds and globals is of the turn before", Promise13TurnTest::turnBefore);
        Desk.held("13 folds: sum, least, most, first, in the order in which it was sent", Promise13TurnTest::folds);
        Desk.held("13 folds: all, some", Promise13TurnTest::boolFolds);
        Desk.held("13 folds: sum wraps at both ends; least, most reach both ends", Promise13TurnTest::foldsAtBothEnds);
        Desk.held("13 folds, globals: where there is nothing", Promise13TurnTest::nothing);
        Desk.held("13 has: whether there is something, whatever its number", Promise13TurnTest::has);
        Desk.held("13 globals: folded as they are given, of the turn before", Promise13TurnTest::globals);
        Desk.held("13 folds, globals: of each of thirty TURNS", Promise13TurnTest::turnByTurn);
        Desk.held("13 globals: sum wraps at both ends; what equals nothing", Promise13TurnTest::globalsAtBothEnds);
        Desk.held("13 send: for each arc, by rising numbers, with that arc's columns", Promise13TurnTest::eachArc);
        Desk.held("13 send: no arcs: its exp is not worked out", Promise13TurnTest::noArcs);
        Desk.held("13 id, turn, nodes, degree, indegree", Promise13TurnTest::wordsThatAreNumbers);
        Desk.held("13 halt ends what the node does in this turn", Promise13TurnTest::haltEnds);
        Desk.held("13 loop: 0, 1 and 100 times, one within another", Promise13TurnTest::loops);
        Desk.held("13 let: made anew wherever it is begun", Promise13TurnTest::lets);
        Desk.held("13 ints wrap, at both ends", Promise13TurnTest::wrapping);
        Desk.held("13 / and % as in Java", Promise13TurnTest::dividing);
        Desk.held("13 chains are read from the left", Promise13TurnTest::fromTheLeft);
        Desk.held("13 comparing, && || !", Promise13TurnTest::truths);
        Desk.held("13 && || if are worked out only as far as needed", Promise13TurnTest::asFarAsNeeded);
        Desk.held("13 draw: MIX of seed, node, TURN, how many were drawn", Promise13TurnTest::drawing);
        Desk.held("13 draw: of 1, of the greatest, modulo without sign", Promise13TurnTest::drawingAtTheEnds);
        Desk.close();
    }

    private static void risingNumber() {
        Desk desk = Desk.begun("fold f : first ; global g : first ; global h : sum ; start { send f id along ; give g id ; "
            + "give h - h * 2 ; } round { }", 5, 3, 0, 1, 0, 4, 0, 2, 4, 3, 4);
        desk.x.run(1);
        Desk.due("the first that gave", desk.x.global(0), 0);
        Desk.due("the first that sent to 0", desk.x.message(0, 0), 1);
        Desk.due("the first that sent to 4", desk.x.message(4, 0), 2);
    }

    private static void halting() {
        Desk desk = Desk.begun("node n : int = 0 ; fold f : sum ; start { n = 1 ; if id == 0 { send f 1 along ; } halt ; n = 2 ; } "
            + "round { n = n + 10 ; if f < 3 { send f f + 1 along ; } if n > 20 { loop 2 { halt ; } n = 0 ; } else { halt ; } "
            + "n = 0 ; }", 3, 0, 1, 1, 0);
        desk.x.run(1);
        Desk.due("n: halt ends what a node does", desk.column(0), "1 1 1");
        Desk.due("halted nodes", desk.x.told(3), 3);
        desk.x.run(1);
        Desk.due("n: only 1 is woken", desk.column(0), "1 11 1");
        Desk.due("messages under way", desk.x.told(2), 1);
        desk.x.run(1);
        Desk.due("n: only 0 is woken", desk.column(0), "11 11 1");
        desk.x.run(1);
        Desk.due("n: 1 is woken again", desk.column(0), "11 21 1");
        Desk.due("ENDED", desk.x.told(1), 1);
        // messages of each of four folds wake
        for (int fold = 0; fold < 4; fold++) {
            desk = Desk.begun("node n : int = 0 ; fold f0 : sum ; fold f1 : least ; fold f2 : most ; fold f3 : first ; start { send f"
                + fold + " 0 along ; halt ; } round { n = n + 1 ; halt ; }", 2, 0, 1);
            desk.x.run(2);
            Desk.due("n, woken by fold " + fold, desk.column(0), "0 1");
        }
    }

    private static void woken() {
        Desk desk = Desk.begun("fold f : sum ; start { send f 1 along ; halt ; } round { if turn > 2 { halt ; } }", 2, 0, 1);
        desk.x.run(1);
        Desk.due("halted(1) with a message under way", desk.x.halted(1), 1);
        desk.x.run(1);
        Desk.due("halted(1) then", desk.x.halted(1), 0);
        Desk.due("halted(0)", desk.x.halted(0), 1);
        Desk.due("run(100)", desk.x.run(100), 2);
        Desk.due("ENDED at turn", desk.x.told(0), 4);
        // one that is woken and halts again has halted
        desk = Desk.begun("fold f : sum ; start { send f 1 along ; halt ; } round { halt ; }", 2, 0, 1);
        desk.x.run(2);
        Desk.due("halted(1), halting again", desk.x.halted(1), 1);
    }

    /** A chain hands a number on, one node a TURN, though the nodes work by rising number. */
    private static void turnBefore() {
        Desk desk = Desk.begun("node v : int = 0 ; node w : int = 0 ; fold f : sum ; global g : sum ; start { v = id + 1 ; "
            + "send f v along ; give g 1 ; w = g ; } round { v = f ; send f v along ; give g g ; w = g ; }",
            4, 0, 1, 1, 2, 2, 3, 3, 0);
        String[] want = {"1 2 3 4", "4 1 2 3", "3 4 1 2", "2 3 4 1", "1 2 3 4"};
        String[] given = {"0 0 0 0", "4 4 4 4", "16 16 16 16", "64 64 64 64", "256 256 256 256"};
        for (int turn = 0; turn < want.length; turn++) {
            desk.x.run(1);
            Desk.due("v in turn " + turn, desk.column(0), want[turn]);
            Desk.due("w in turn " + turn, desk.column(1), given[turn]);
        }
        // its own states a node sees as it changes them
        desk = Desk.begun("node v : int = 1 ; start { v = v + 1 ; v = v * 10 ; v = v + 2 ; } round { }", 1);
        desk.x.run(1);
        Desk.due("v", desk.x.state(0, 0), 22);
    }

    private static void folds() {
        String[] ways = {"sum", "least", "most", "first"};
        int[] folded = {-2147483647 + 5 - 3, -3, 2147483647, 2147483647};
        int[] nothing = {0, 2147483647, -2147483648, 0};
        for (int i = 0; i < ways.length; i++) {
            Desk desk = Desk.begun("node v : int = 1 ; node h : bool = false ; fold f : " + ways[i] + " ; start { "
                + "if id == 1 { send f 2147483647 along ; send f 2 along ; } if id == 2 { send f 5 along ; "
                + "send f 0 - 3 along ; } } round { v = f ; h = has f ; }", 3, 2, 0, 1, 0);
            desk.x.run(1);
            Desk.due("message(0, 0) by " + ways[i], desk.x.message(0, 0), folded[i]);
            desk.x.run(1);
            Desk.due("states of 0 by " + ways[i], desk.states(0), folded[i] + " 1");
            Desk.due("states of 1 by " + ways[i], desk.states(1), nothing[i] + " 0");
            desk.x.run(1);
            Desk.due("states of 0 a turn later", desk.states(0), nothing[i] + " 0");
        }
    }

    private static void boolFolds() {
        boolean[] both = {false, true};
        for (boolean one : both) {
            for (boolean two : both) {
                for (boolean three : both) {
                    boolFold("all", one && two && three, one, two, three);
                    boolFold("some", one || two || three, one, two, three);
                }
            }
        }
    }

    private static void boolFold(String way, boolean want, boolean... sent) {
        StringBuilder sends = new StringBuilder();
        for (boolean one : sent) {
            sends.append("send f ").append(one).append(" along ; give g ").append(one).append(" ; ");
        }
        Desk desk = Desk.begun("node v : bool = false ; node w : bool = false ; fold f : " + way + " ; global g : " + way
            + " ; start { if id == 0 { " + sends + "} } round { v = f ; w = g ; }", 2, 0, 1);
        desk.x.run(1);
        int due = want ? 1 : 0;
        int nothing = way.equals("all") ? 1 : 0;
        Desk.due("message(1, 0) of " + sends + " by " + way, desk.x.message(1, 0), due);
        Desk.due("message(0, 0) by " + way, desk.x.message(0, 0), nothing);
        Desk.due("global(0) of " + sends + " by " + way, desk.x.global(0), due);
        desk.x.run(1);
        Desk.due("v by " + way, desk.column(0), nothing + " " + due);
        Desk.due("w by " + way, desk.column(1), due + " " + due);
    }

    private static void folded(String way, int want, String... sent) {
        StringBuilder sends = new StringBuilder();
        StringBuilder gives = new StringBuilder();
        for (String one : sent) {
            sends.append("send f ").append(one).append(" along ; ");
            gives.append("give g ").append(one).append(" ; ");
        }
        Desk desk = Desk.begun("fold f : " + way + " ; global g : " + way + " ; start { if id == 0 { " + sends + gives
            + "} } round { }", 2, 0, 1);
        desk.x.run(1);
        Desk.due("message(1, 0) of " + sends + "by " + way, desk.x.message(1, 0), want);
        Desk.due("messages(1, 0) of " + sends + "by " + way, desk.x.messages(1, 0), sent.length);
        Desk.due("global(0) of " + gives + "by " + way, desk.x.global(0), want);
    }

    private static void foldsAtBothEnds() {
        folded("sum", Desk.LEAST, MAX, "1");
        folded("sum", Desk.GREATEST, MIN, "- 1");
        folded("sum", 0, MIN, MIN);
        folded("sum", -2, MAX, MAX);
        folded("sum", -1, MAX, MIN);
        folded("least", Desk.LEAST, "0", MIN, MAX);
        folded("least", Desk.GREATEST, MAX, MAX);
        folded("least", -1, "- 1", "0");
        folded("most", Desk.GREATEST, "0", MAX, MIN);
        folded("most", Desk.LEAST, MIN, MIN);
        folded("most", 0, "- 1", "0");
        folded("first", Desk.LEAST, MIN, MAX);
        folded("first", Desk.GREATEST, MAX, "0");
        folded("first", 0, "0", "5");
    }

    private static void nothing() {
        String[] ways = {"sum", "least", "most", "first", "all", "some"};
        int[] none = {0, Desk.GREATEST, Desk.LEAST, 0, 1, 0};
        for (int i = 0; i < ways.length; i++) {
            String kind = i < 4 ? "int = 77" : "bool = " + (none[i] == 0);
            Desk desk = Desk.begun("node v : " + kind + " ; node w : " + kind + " ; node h : bool = true ; fold f : " + ways[i]
                + " ; global g : " + ways[i] + " ; start { v = f ; w = g ; h = has f ; } round { }", 1);
            Desk.due("message(0, 0) by " + ways[i], desk.x.message(0, 0), none[i]);
            Desk.due("global(0) by " + ways[i], desk.x.global(0), none[i]);
            desk.x.run(1);
            Desk.due("read of nothing by " + ways[i], desk.states(0), none[i] + " " + none[i] + " 0");
        }
    }

    private static void has() {
        String[] ways = {"sum", "least", "most", "first", "all", "some"};
        String[] sent = {"0", MAX, MIN, "0", "true", "false"};
        for (int i = 0; i < ways.length; i++) {
            Desk desk = Desk.begun("node h : bool = false ; fold f : " + ways[i] + " ; start { if id == 0 { send f " + sent[i]
                + " along ; } } round { h = has f ; }", 2, 0, 1);
            desk.x.run(1);
            Desk.due("a number that equals nothing, by " + ways[i] + ": messages(1, 0)", desk.x.messages(1, 0), 1);
            Desk.due("messages(0, 0)", desk.x.messages(0, 0), 0);
            desk.x.run(1);
            Desk.due("has f", desk.column(0), "0 1");
            desk.x.run(1);
            Desk.due("has f a turn later", desk.column(0), "0 0");
        }
    }

    private static void globals() {
        Desk desk = Desk.begun("node s : int = 9 ; node f : int = 9 ; node b : bool = false ; global gs : sum ; "
            + "global gf : first ; global ga : all ; global gl : least ; start { give gs id * 2 ; give gf id + 7 ; "
            + "if id != 1 { give ga true ; } s = gs ; f = gf ; b = ga ; } round { s = gs ; f = gf ; b = ga ; "
            + "give gl s - id ; if id == 2 { give ga false ; give gf 5 ; give gf 6 ; } }", 3);
        int[][] rows = {{0, 0, 1, 2147483647}, {6, 7, 1, 2147483647}, {0, 5, 0, 4}, {0, 5, 0, -2}};
        for (int turn = 0; turn < rows.length; turn++) {
            for (int k = 0; k < 4; k++) {
                Desk.due("global(" + k + ") ahead of turn " + turn, desk.x.global(k), rows[turn][k]);
            }
            desk.x.run(1);
            Desk.due("states in turn " + turn, desk.states(0), rows[turn][0] + " " + rows[turn][1] + " " + rows[turn][2]);
        }
    }

    /** What is sent and given in each TURN is that TURN's alone, however many went before. */
    private static void turnByTurn() {
        Desk desk = Desk.begun("fold f : first ; fold s : sum ; global g : first ; global a : all ; start { send f 50 along ; } "
            + "round { send f turn + 100 along ; send f 7 along ; send s turn along ; give g turn * 2 ; give g 9 ; "
            + "give a turn % 3 != 0 ; }", 1, 0, 0);
        desk.x.run(1);
        for (int turn = 1; turn < 30; turn++) {
            desk.x.run(1);
            Desk.due("first, sent in TURN " + turn, desk.x.message(0, 0), turn + 100);
            Desk.due("messages, sent in TURN " + turn, desk.x.messages(0, 0), 2);
            Desk.due("sum, sent in TURN " + turn, desk.x.message(0, 1), turn);
            Desk.due("first, given in TURN " + turn, desk.x.global(0), turn * 2);
            Desk.due("all, given in TURN " + turn, desk.x.global(1), turn % 3 == 0 ? 0 : 1);
            Desk.due("told(2)", desk.x.told(2), 3);
        }
    }

    private static void globalsAtBothEnds() {
        Desk desk = Desk.begun("global s : sum ; global l : least ; global m : most ; global f : first ; start { "
            + "give s 1073741824 ; give l 0 - id ; give m id - 3 ; give f id ; } round { if id == 0 { give f 0 ; } "
            + "give f 9 ; }", 2);
        desk.x.run(1);
        Desk.due("sum", desk.x.global(0), Desk.LEAST);
        Desk.due("least", desk.x.global(1), -1);
        Desk.due("most", desk.x.global(2), -2);
        Desk.due("first", desk.x.global(3), 0);
        desk.x.run(1);
        Desk.due("first: a 0 that was given first stays", desk.x.global(3), 0);
        Desk.due("sum of nothing", desk.x.global(0), 0);
    }

    private static void eachArc() {
        Desk desk = Desk.with("column w ; node v : int = 0 ; fold f : first ; fold s : sum ; start { send f arc . w * 10 + id along ; "
            + "send s arc . w against ; } round { v = f ; }", 3, 0, 1, 2, 1, 0, 1, 0, 2, 1, 1);
        for (int arc = 0; arc < 5; arc++) {
            desk.x.weight(arc, 0, arc + 1);
        }
        desk.x.begin(0);
        desk.x.run(1);
        Desk.due("first to 1: arc 0 of node 0", desk.x.message(1, 0), 10);
        Desk.due("messages(1, 0)", desk.x.messages(1, 0), 4);
        Desk.due("first to 2", desk.x.message(2, 0), 40);
        Desk.due("against, to 0", desk.x.message(0, 1), 1 + 3 + 4);
        Desk.due("against, to 1", desk.x.message(1, 1), 5);
        Desk.due("against, to 2", desk.x.message(2, 1), 2);
        Desk.due("told(2)", desk.x.told(2), 10);
        // a draw for each arc: the exp is worked out anew
        desk = Desk.begun("fold f : sum ; fold h : first ; start { if id == 0 { send f draw ( 1000 ) along ; send h draw ( 1000 ) "
            + "along ; } } round { }", 2, 0, 1, 0, 1, 0, 1);
        desk.x.run(1);
        Desk.due("three draws", desk.x.message(1, 0), drawn(1000, 0, 0, 0, 0) + drawn(1000, 0, 0, 0, 1) + drawn(1000, 0, 0, 0, 2));
        Desk.due("the fourth", desk.x.message(1, 1), drawn(1000, 0, 0, 0, 3));
        // arcs by rising numbers, also where they were told in another order of nodes
        desk = Desk.begun("fold f : first ; node n : int = 0 ; start { } round { if id == 0 { loop 1 { send f draw ( 7777 ) against ; } } }",
            4, 3, 0, 1, 0, 2, 0);
        desk.x.run(2);
        for (int i = 0; i < 3; i++) {
            int node = new int[] {3, 1, 2}[i];
            Desk.due("to node " + node, desk.x.message(node, 0), drawn(7777, 0, 0, 1, i));
        }
    }

    private static void noArcs() {
        Desk desk = Desk.begun("fold f : sum ; start { send f 1 / 0 along ; send f draw ( 0 ) against ; } round { }", 1);
        Desk.due("run(1)", desk.x.run(1), 1);
        Desk.due("told(9)", desk.x.told(9), 2);
        Desk.due("told(2)", desk.x.told(2), 0);
        desk = Desk.begun("fold f : sum ; start { if id == 1 { send f 1 / 0 along ; } } round { }", 2, 0, 1);
        Desk.due("run(1), none from the node", desk.x.run(1), 1);
        desk = Desk.begun("fold f : sum ; start { if id == 1 { send f 1 / 0 against ; } } round { }", 2, 0, 1);
        Desk.due("run(1), one to the node", desk.x.run(1), Desk.FAILED);
    }

    private static void wordsThatAreNumbers() {
        Desk desk = Desk.begun("node a : int = 0 ; node b : int = 0 ; node c : int = 0 ; node d : int = 0 ; node e : int = 0 ; "
            + "start { a = id ; b = turn ; c = nodes ; d = degree ; e = indegree ; } round { a = id ; b = turn ; c = nodes ; "
            + "d = degree ; e = indegree ; }", 3, 0, 1, 0, 2, 0, 2, 2, 2);
        desk.x.run(1);
        String[] first = {"0 0 3 3 0", "1 0 3 0 1", "2 0 3 1 3"};
        for (int node = 0; node < 3; node++) {
            Desk.due("node " + node, desk.states(node), first[node]);
        }
        desk.x.run(2);
        Desk.due("node 2 in TURN 2", desk.states(2), "2 2 3 1 3");
    }

    private static void haltEnds() {
        Desk desk = Desk.begun("node n : int = 0 ; fold f : sum ; global g : sum ; start { n = 1 ; send f 1 along ; give g 1 ; "
            + "loop 100 { n = n + 1 ; if n == 5 { halt ; } } n = 100 ; send f 1 along ; give g 1 ; } round { n = 1000 ; }", 2, 0, 0);
        desk.x.run(1);
        Desk.due("n", desk.column(0), "5 5");
        Desk.due("what was sent ahead of it stays", desk.x.messages(0, 0), 1);
        Desk.due("what was given ahead of it stays", desk.x.global(0), 2);
        Desk.due("told(3)", desk.x.told(3), 2);
        desk.x.run(1);
        Desk.due("n", desk.column(0), "1000 5");
    }

    private static void loops() {
        Desk desk = Desk.begun("node a : int = 0 ; node b : int = 0 ; node c : int = 0 ; node d : int = 0 ; start { "
            + "loop 0 { a = 100 ; } loop 1 { a = a + 1 ; } loop 100 { b = b + 1 ; } "
            + "loop 2 { loop 3 { loop 2 { c = c + 1 ; } loop 3 { c = c + 10 ; } } loop 0 { c = 0 ; } } } "
            + "round { loop 5 { d = d + 1 ; if d == 3 { halt ; } } }", 1);
        Desk.due("run(1)", desk.x.run(1), 1);
        Desk.due("states", desk.states(0), "1 100 192 0");
        Desk.due("run(9)", desk.x.run(9), 1);
        Desk.due("d", desk.x.state(0, 3), 3);
        StringBuilder deep = new StringBuilder();
        for (int i = 0; i < 11; i++) {
            deep.append(i < 4 ? "loop 2 { " : "loop 1 { ");
        }
        desk = Desk.begun("node a : int = 0 ; start { " + deep + "a = a + 1 ; " + "} ".repeat(11) + "} round { }", 1);
        Desk.due("run(1), eleven loops within one another", desk.x.run(1), 1);
        Desk.due("a", desk.x.state(0, 0), 16);
    }

    private static void lets() {
        Desk desk = Desk.begun("node a : int = 0 ; node b : int = 0 ; node c : int = 0 ; start { "
            + "loop 3 { let k = a ; loop 4 { let m = k + 1 ; a = a + m ; k = m ; } b = b + 1 ; } "
            + "let x = 5 ; if x == 5 { let y = 6 ; x = y + 1 ; } else { let y = 0 ; x = y ; } let y = x ; c = y ; } round { }", 1);
        desk.x.run(1);
        // k = 0: a = 1, 3, 6, 10; k = 10: 21, 33, 46, 60; k = 60: 121, 183, 246, 310
        Desk.due("states", desk.states(0), "310 3 7");
        desk = Desk.begun("node s : int = 0 ; start { let a = 1 ; let b = 20 ; let c = 300 ; let d = 4000 ; let e = 50000 ; "
            + "let f = 600000 ; let g = 7000000 ; let h = 80000000 ; s = a + b + c + d + e + f + g + h ; } round { }", 2);
        desk.x.run(1);
        Desk.due("eight lets", desk.column(0), "87654321 87654321");
    }

    private static void value(String exp, int want) {
        Desk desk = Desk.begun("node v : int = 77 ; start { v = " + exp + " ; } round { }", 1);
        Desk.due("run(1) of " + exp, desk.x.run(1), 1);
        Desk.due(exp, desk.x.state(0, 0), want);
    }

    private static void truth(String exp, boolean want) {
        Desk desk = Desk.begun("node v : bool = " + !want + " ; start { v = " + exp + " ; } round { }", 1);
        Desk.due("run(1) of " + exp, desk.x.run(1), 1);
        Desk.due(exp, desk.x.state(0, 0), want ? 1 : 0);
    }

    private static void wrapping() {
        value(MAX + " + 1", Desk.LEAST);
        value(MAX + " + " + MAX, -2);
        value(MIN + " - 1", Desk.GREATEST);
        value(MIN + " + " + MIN, 0);
        value("0 - " + MIN, Desk.LEAST);
        value("- " + MIN, Desk.LEAST);
        value("- " + MAX, -2147483647);
        value(MIN + " * - 1", Desk.LEAST);
        value(MAX + " * " + MAX, 1);
        value(MAX + " * 2", -2);
        value(MIN + " * 2", 0);
        value(MIN + " * " + MIN, 0);
        value("65536 * 65536", 0);
        value("65536 * 32768", Desk.LEAST);
        value("- 0", 0);
        value(MAX + " + 0", Desk.GREATEST);
    }

    private static void dividing() {
        value("7 / 2", 3);
        value("- 7 / 2", -3);
        value("7 / - 2", -3);
        value("- 7 / - 2", 3);
        value("7 % 3", 1);
        value("- 7 % 3", -1);
        value("7 % - 3", 1);
        value("- 7 % - 3", -1);
        value("0 / 5", 0);
        value("0 % 5", 0);
        value("1 / 2", 0);
        value("- 1 / 2", 0);
        value(MIN + " / - 1", Desk.LEAST);
        value(MIN + " % - 1", 0);
        value(MIN + " / 1", Desk.LEAST);
        value(MAX + " / - 1", -2147483647);
        value(MIN + " / " + MIN, 1);
        value(MIN + " % " + MAX, -1);
        value(MAX + " % " + MIN, Desk.GREATEST);
        value(MAX + " / " + MIN, 0);
        value(MIN + " / 2", -1073741824);
    }

    private static void fromTheLeft() {
        value("1 + 2 * 3 - 4", 3);
        value("10 - 4 - 3", 3);
        value("10 - ( 4 - 3 )", 9);
        value("10 - 4 + 3", 9);
        value("100 / 10 / 5", 2);
        value("100 / ( 10 / 5 )", 50);
        value("7 * 3 % 4", 1);
        value("7 * ( 3 % 4 )", 21);
        value("100 / 7 * 7", 98);
        value("- - 5", 5);
        value("- 5 - - 5", 0);
        value("- 2 * 3 + 4", -2);
        value("2 - - - 3", -1);
        value("if ( 1 < 2 , 3 , 4 )", 3);
        value("if ( 1 > 2 , 3 , if ( true , 5 , 6 ) ) + 1", 6);
    }

    private static void truths() {
        String[] signs = {"<", "<=", ">", ">=", "==", "!="};
        boolean[][] want = {{true, false, false}, {true, true, false}, {false, false, true}, {false, true, true},
            {false, true, false}, {true, false, true}};
        for (int i = 0; i < signs.length; i++) {
            truth("1 " + signs[i] + " 2", want[i][0]);
            truth("2 " + signs[i] + " 2", want[i][1]);
            truth("3 " + signs[i] + " 2", want[i][2]);
            truth(MIN + " " + signs[i] + " " + MAX, want[i][0]);
            truth(MIN + " " + signs[i] + " " + MIN, want[i][1]);
            truth(MAX + " " + signs[i] + " " + MIN, want[i][2]);
            truth("- 1 " + signs[i] + " 0", want[i][0]);
        }
        boolean[] both = {false, true};
        for (boolean one : both) {
            truth("! " + one, !one);
            truth("! ! " + one, one);
            for (boolean two : both) {
                truth(one + " && " + two, one && two);
                truth(one + " || " + two, one || two);
                truth(one + " == " + two, one == two);
                truth(one + " != " + two, one != two);
                truth("! " + one + " == " + two, !one == two);
                truth("if ( " + one + " , " + two + " , ! " + two + " )", one ? two : !two);
                for (boolean three : both) {
                    truth(one + " || " + two + " && " + three, one || two && three);
                    truth("( " + one + " || " + two + " ) && " + three, (one || two) && three);
                    truth(one + " && " + two + " || " + three, one && two || three);
                    truth(one + " && ( " + two + " || " + three + " )", one && (two || three));
                    truth(one + " == ( " + two + " && " + three + " )", one == (two && three));
                    truth("( " + one + " || " + two + " ) != " + three, (one || two) != three);
                }
            }
        }
        truth("true == ( true || false ) && 1 + if ( false && true , 1 , 2 ) == 3", true);
    }

    /** What is not needed is not worked out: else it would fail. */
    private static void asFarAsNeeded() {
        truth("false && 1 / 0 == 1", false);
        truth("true || 1 / 0 == 1", true);
        truth("false && 1 / 0 == 1 && 1 / 0 == 1", false);
        truth("true || 1 / 0 == 1 || 1 / 0 == 1", true);
        truth("false && 1 / 0 == 1 || true", true);
        truth("true && false && draw ( 0 ) == 1", false);
        value("if ( true , 1 , 1 / 0 )", 1);
        value("if ( false , 1 / 0 , 2 )", 2);
        value("if ( true || draw ( 0 ) == 0 , 1 , 2 )", 1);
        for (String needed : new String[] {"true && 1 / 0 == 1", "false || 1 / 0 == 1", "if ( true , 1 / 0 , 1 ) == 1",
            "if ( false , 1 , 1 / 0 ) == 1", "if ( 1 / 0 == 1 , true , true )", "1 / 0 == 1 && false", "1 / 0 == 1 || true"}) {
            Desk desk = Desk.begun("node v : bool = true ; start { v = " + needed + " ; } round { }", 1);
            Desk.due("run(1) of " + needed, desk.x.run(1), Desk.FAILED);
        }
        // nor is it drawn
        Desk desk = Desk.begun("node v : int = 0 ; start { if false && draw ( 5 ) == 1 { } v = draw ( 1000 ) ; } round { }", 1);
        desk.x.begin(9);
        desk.x.run(1);
        Desk.due("the first draw", desk.x.state(0, 0), drawn(1000, 9, 0, 0, 0));
    }

    private static int mix(int seed, int node, int turn, int drawn) {
        int h = seed;
        for (int x : new int[] {node, turn, drawn}) {
            h = (h ^ x) * 0x9E3779B1;
            h = h ^ h >>> 15;
        }
        return h;
    }

    private static int drawn(int below, int seed, int node, int turn, int before) {
        return Integer.remainderUnsigned(mix(seed, node, turn, before), below);
    }

    private static void drawing() {
        Desk desk = Desk.with("node a : int = 0 ; node b : int = 0 ; node c : int = 0 ; start { a = draw ( 2147483647 ) ; "
            + "b = draw ( 10 ) ; c = draw ( 1 ) ; } round { a = draw ( 1000 ) ; b = draw ( 2147483647 ) - draw ( 7 ) ; }", 40);
        for (int seed : new int[] {0, 1, -1, 99, Desk.LEAST, Desk.GREATEST}) {
            desk.x.begin(seed);
            desk.x.run(1);
            for (int node : new int[] {0, 1, 39}) {
                Desk.due("draw, seed " + seed + ", node " + node, desk.states(node),
                    drawn(2147483647, seed, node, 0, 0) + " " + drawn(10, seed, node, 0, 1) + " 0");
            }
            desk.x.run(2);
            Desk.due("draw in turn 2, seed " + seed, desk.states(1), drawn(1000, seed, 1, 2, 0) + " "
                + (drawn(2147483647, seed, 1, 2, 1) - drawn(7, seed, 1, 2, 2)) + " 0");
        }
        // numbers that were worked out elsewhere: those of a test under ../shared/tests
        Desk known = Desk.with("node n : int = 0 ; start { loop 3 { n = n + draw ( 10 ) ; } } round { }", 3);
        known.x.begin(5);
        known.x.run(1);
        Desk.due("three draws with seed 5", known.column(0), "16 18 8");
        known.x.begin(6);
        known.x.run(1);
        Desk.due("three draws with seed 6", known.x.state(0, 0) + " " + known.x.state(1, 0), "25 8");
        // a hundred draws of a node in a turn, then the count begins anew
        Desk many = Desk.begun("node a : int = 0 ; node b : int = 0 ; start { b = draw ( 99 ) ; loop 99 { a = draw ( 1000000 ) ; } } "
            + "round { b = draw ( 99 ) ; loop 99 { a = draw ( 1000000 ) ; } }", 2);
        many.x.run(1);
        Desk.due("the hundredth draw", many.x.state(1, 0), drawn(1000000, 0, 1, 0, 99));
        many.x.run(1);
        Desk.due("the first draw of the next turn", many.x.state(1, 1), drawn(99, 0, 1, 1, 0));
        Desk.due("the hundredth of it", many.x.state(1, 0), drawn(1000000, 0, 1, 1, 99));
        // what is undone and done again is drawn again
        many.x.undo();
        many.x.run(1);
        Desk.due("done again", many.x.state(1, 0), drawn(1000000, 0, 1, 1, 99));
        // an inner draw comes ahead of the one around it
        Desk inner = Desk.begun("node a : int = 0 ; start { a = draw ( 1000 + draw ( 1 ) ) ; } round { }", 2);
        inner.x.run(1);
        Desk.due("the second", inner.x.state(1, 0), drawn(1000, 0, 1, 0, 1));
    }

    private static void drawingAtTheEnds() {
        boolean high = false;
        for (int seed = 0; seed < 30; seed++) {
            Desk desk = Desk.with("node a : int = 77 ; node b : int = 77 ; node c : int = 77 ; start { a = draw ( 2147483647 ) ; "
                + "b = draw ( 1 ) ; c = draw ( 2 ) ; } round { }", 1);
            desk.x.begin(seed);
            desk.x.run(1);
            high |= mix(seed, 0, 0, 0) < 0;
            Desk.due("seed " + seed, desk.states(0), drawn(2147483647, seed, 0, 0, 0) + " 0 " + drawn(2, seed, 0, 0, 2));
        }
        Desk.due("some of them have the highest bit", high, true);
        for (String below : new String[] {"0", "- 1", MIN, "0 - " + MAX}) {
            Desk desk = Desk.begun("node a : int = 77 ; start { a = draw ( " + below + " ) ; } round { }", 1);
            Desk.due("run(1) with draw ( " + below + " )", desk.x.run(1), Desk.FAILED);
            Desk.due("told(4)", desk.x.told(4), 2);
        }
    }
}
