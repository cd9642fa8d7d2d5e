/** Promises 12 (begin) and 13 (run): TURNS, what a node reads in them, halting, waking, the end. */
public final class RunTest {
    public static void main(String[] args) {
        wrongCalls();
        beginning();
        turns();
        seenFromTheTurnBefore();
        folds();
        globals();
        halting();
        loopsAndLets();
        sums();
        shortWays();
        drawing();
        weightsOfArcs();
        oneBehindAnother();
        Desk.close();
    }

    private static void wrongCalls() {
        Desk desk = new Desk();
        Desk.due("begin() without a program", desk.x.begin(5), Desk.BAD);
        Desk.due("run() without a program", desk.x.run(1), Desk.BAD);
        desk.load("start { } round { }");
        Desk.due("run() without a RUN", desk.x.run(1), Desk.BAD);
        Desk.due("begin(5)", desk.x.begin(5), 1);
        for (int turns : new int[] {0, -1, 101, Integer.MIN_VALUE, Integer.MAX_VALUE}) {
            Desk.due("run(" + turns + ")", desk.x.run(turns), Desk.BAD);
        }
        Desk.due("told(0)", desk.x.told(0), 0);
        Desk.due("run(1)", desk.x.run(1), 1);
        Desk.due("run(100)", desk.x.run(100), 100);
        Desk.due("told(0) then", desk.x.told(0), 101);
        desk.load("start { } round { ");
        Desk.due("begin() of a wrong program", desk.x.begin(5), Desk.BAD);
    }

    private static void beginning() {
        Desk desk = Desk.with("node a : int = -2147483647 ; node b : bool = true ; node c : bool = false ; node d : int = 7 ; "
            + "start { a = a - 1 ; b = false ; d = 8 ; halt ; } round { }", 2);
        desk.x.begin(1);
        Desk.due("states at first", desk.states(1), "-2147483647 1 0 7");
        desk.x.run(1);
        Desk.due("states then", desk.states(1), "-2147483648 0 0 8");
        Desk.due("halted(1)", desk.x.halted(1), 1);
        Desk.due("begin() anew", desk.x.begin(1), 1);
        Desk.due("states anew", desk.states(1), "-2147483647 1 0 7");
        Desk.due("halted(1) anew", desk.x.halted(1), 0);
        Desk.due("told(0) anew", desk.x.told(0), 0);
        Desk.due("told(8) anew", desk.x.told(8), 0);
        Desk.due("told(9) anew", desk.x.told(9), 0);
    }

    private static void turns() {
        Desk desk = Desk.with("node s : int = 0 ; node r : int = 0 ; node t : int = -1 ; start { s = s + 1 ; t = turn ; } "
            + "round { r = r + 1 ; t = turn ; if turn == 4 { halt ; } }", 3);
        desk.x.begin(0);
        Desk.due("run(3)", desk.x.run(3), 3);
        Desk.due("states", desk.states(2), "1 2 2");
        Desk.due("run(9): till it has ENDED", desk.x.run(9), 2);
        Desk.due("states at the end", desk.states(2), "1 4 4");
        Desk.due("run(9) behind the end", desk.x.run(9), 0);
        Desk.due("run(1) behind the end", desk.x.run(1), 0);
        Desk.due("run(0) behind the end", desk.x.run(0), Desk.BAD);
        Desk.due("told(0)", desk.x.told(0), 5);
    }

    /** A chain hands a number on, one node a TURN, though the nodes work by rising number. */
    private static void seenFromTheTurnBefore() {
        Desk desk = Desk.with("node v : int = 0 ; fold f : sum ; start { v = id + 1 ; send f v along ; } "
            + "round { v = f ; send f v along ; }", 4, 0, 1, 1, 2, 2, 3, 3, 0);
        desk.x.begin(0);
        String[] want = {"1 2 3 4", "4 1 2 3", "3 4 1 2", "2 3 4 1", "1 2 3 4"};
        for (String row : want) {
            desk.x.run(1);
            Desk.due("v", desk.column(0), row);
        }
    }

    private static void folds() {
        String[] ways = {"sum", "least", "most", "first"};
        int[] folded = {-2147483647 + 5 - 3, -3, 2147483647, 2147483647};
        int[] nothing = {0, 2147483647, -2147483648, 0};
        for (int i = 0; i < ways.length; i++) {
            Desk desk = Desk.with("node v : int = 1 ; node h : bool = false ; fold f : " + ways[i] + " ; start { "
                + "if id == 1 { send f 2147483647 along ; send f 2 along ; } if id == 2 { send f 5 along ; "
                + "send f 0 - 3 along ; } } round { v = f ; h = has f ; }", 3, 2, 0, 1, 0);
            desk.x.begin(0);
            desk.x.run(1);
            Desk.due("message(0, 0) by " + ways[i], desk.x.message(0, 0), folded[i]);
            Desk.due("message(1, 0) by " + ways[i], desk.x.message(1, 0), nothing[i]);
            desk.x.run(1);
            Desk.due("states of 0 by " + ways[i], desk.states(0), folded[i] + " 1");
            Desk.due("states of 1 by " + ways[i], desk.states(1), nothing[i] + " 0");
            Desk.due("message(0, 0) a turn later", desk.x.message(0, 0), nothing[i]);
            Desk.due("messages(0, 0) a turn later", desk.x.messages(0, 0), 0);
            desk.x.run(1);
            Desk.due("states of 0 a turn later", desk.states(0), nothing[i] + " 0");
        }
        boolFold("all", "true", "true", 1);
        boolFold("all", "true", "false", 0);
        boolFold("all", "false", "true", 0);
        boolFold("some", "false", "false", 0);
        boolFold("some", "true", "false", 1);
        boolFold("some", "false", "true", 1);
    }

    private static void boolFold(String way, String one, String two, int want) {
        Desk desk = Desk.with("node v : bool = false ; fold f : " + way + " ; start { if id == 0 { send f " + one
            + " along ; send f " + two + " along ; } } round { v = f ; }", 2, 0, 1);
        desk.x.begin(0);
        desk.x.run(1);
        int nothing = way.equals("all") ? 1 : 0;
        Desk.due("message(1, 0) by " + way, desk.x.message(1, 0), want);
        Desk.due("message(0, 0) by " + way, desk.x.message(0, 0), nothing);
        desk.x.run(1);
        Desk.due("v by " + way, desk.column(0), nothing + " " + want);
    }

    private static void globals() {
        Desk desk = Desk.with("node s : int = 9 ; node f : int = 9 ; node b : bool = false ; global gs : sum ; "
            + "global gf : first ; global ga : all ; global gl : least ; start { give gs id * 2 ; give gf id + 7 ; "
            + "if id != 1 { give ga true ; } s = gs ; f = gf ; b = ga ; } round { s = gs ; f = gf ; b = ga ; "
            + "give gl s - id ; if id == 2 { give ga false ; give gf 5 ; give gf 6 ; } }", 3);
        desk.x.begin(0);
        int[][] rows = {{0, 0, 1, 2147483647}, {6, 7, 1, 2147483647}, {0, 5, 0, 4}, {0, 5, 0, -2}};
        for (int turn = 0; turn < rows.length; turn++) {
            for (int k = 0; k < 4; k++) {
                Desk.due("global(" + k + ") ahead of turn " + turn, desk.x.global(k), rows[turn][k]);
            }
            desk.x.run(1);
            Desk.due("states in turn " + turn, desk.states(0), rows[turn][0] + " " + rows[turn][1] + " " + rows[turn][2]);
        }
    }

    private static void halting() {
        Desk desk = Desk.with("node n : int = 0 ; fold f : sum ; start { n = 1 ; if id == 0 { send f 1 along ; } halt ; n = 2 ; } "
            + "round { n = n + 10 ; if f < 3 { send f f + 1 along ; } if n > 20 { loop 2 { halt ; } n = 0 ; } else { halt ; } "
            + "n = 0 ; }", 3, 0, 1, 1, 0);
        desk.x.begin(0);
        desk.x.run(1);
        Desk.due("n: halt ends what a node does", desk.column(0), "1 1 1");
        Desk.due("halted nodes", desk.x.told(3), 3);
        Desk.due("not ENDED, for a message is under way", desk.x.told(1), 0);
        desk.x.run(1);
        Desk.due("n: only 1 is woken", desk.column(0), "1 11 1");
        Desk.due("messages under way", desk.x.told(2), 1);
        desk.x.run(1);
        Desk.due("n: only 0 is woken", desk.column(0), "11 11 1");
        desk.x.run(1);
        Desk.due("n: 1 is woken again", desk.column(0), "11 21 1");
        Desk.due("ENDED", desk.x.told(1), 1);
        Desk.due("run(5)", desk.x.run(5), 0);

        Desk woken = Desk.with("fold f : sum ; start { send f 1 along ; halt ; } round { if turn > 2 { halt ; } }", 2, 0, 1);
        woken.x.begin(0);
        woken.x.run(1);
        Desk.due("a node to which a message is under way has halted still", woken.x.halted(1), 1);
        woken.x.run(1);
        Desk.due("it has not halted then", woken.x.halted(1), 0);
        Desk.due("the other has", woken.x.halted(0), 1);
        Desk.due("run(100)", woken.x.run(100), 2);
        Desk.due("ENDED at turn", woken.x.told(0), 4);
    }

    private static void loopsAndLets() {
        Desk desk = Desk.with("node a : int = 0 ; node b : int = 0 ; node c : int = 0 ; start { "
            + "loop 0 { a = 100 ; } loop 3 { let k = a ; loop 4 { let m = k + 1 ; a = a + m ; k = m ; } b = b + 1 ; } "
            + "let x = 5 ; if x == 5 { let y = 6 ; x = y + 1 ; } else { let y = 0 ; x = y ; } let y = x ; c = y ; } "
            + "round { loop 2 { loop 2 { loop 2 { c = c + 1 ; } loop 3 { c = c + 10 ; } } } halt ; }", 1);
        desk.x.begin(0);
        desk.x.run(1);
        // k = 0: a = 1, 3, 6, 10; k = 10: 21, 33, 46, 60; k = 60: 121, 183, 246, 310
        Desk.due("states", desk.states(0), "310 3 7");
        desk.x.run(1);
        Desk.due("states", desk.states(0), "310 3 135");
    }

    private static void value(String exp, int want) {
        Desk desk = Desk.with("node v : int = 0 ; start { v = " + exp + " ; } round { }", 1);
        desk.x.begin(0);
        Desk.due("run(1) of " + exp, desk.x.run(1), 1);
        Desk.due(exp, desk.x.state(0, 0), want);
    }

    private static void truth(String exp, boolean want) {
        Desk desk = Desk.with("node v : bool = " + !want + " ; start { v = " + exp + " ; } round { }", 1);
        desk.x.begin(0);
        Desk.due("run(1) of " + exp, desk.x.run(1), 1);
        Desk.due(exp, desk.x.state(0, 0), want ? 1 : 0);
    }

    private static void sums() {
        value("1 + 2 * 3 - 4", 3);
        value("10 - 4 - 3", 3);
        value("10 - ( 4 - 3 )", 9);
        value("100 / 10 / 5", 2);
        value("100 / ( 10 / 5 )", 50);
        value("7 / 2", 3);
        value("- 7 / 2", -3);
        value("- 7 % 3", -1);
        value("7 % - 3", 1);
        value("7 * 3 % 4", 1);
        value("2147483647 + 1", -2147483648);
        value("- 2147483647 - 2", 2147483647);
        value("2147483647 * 2147483647", 1);
        value("- ( - 2147483647 - 1 )", -2147483648);
        value("( - 2147483647 - 1 ) / - 1", -2147483648);
        value("( - 2147483647 - 1 ) % - 1", 0);
        value("- - 5", 5);
        value("id + turn + degree + indegree", 0);
        value("nodes", 1);
        value("if ( 1 < 2 , 3 , 4 )", 3);
        value("if ( 1 > 2 , 3 , if ( true , 5 , 6 ) ) + 1", 6);
        truth("1 < 2", true);
        truth("2 < 2", false);
        truth("2 <= 2", true);
        truth("3 <= 2", false);
        truth("2 > 2", false);
        truth("3 > 2", true);
        truth("2 >= 2", true);
        truth("1 >= 2", false);
        truth("- 2147483647 - 1 < 2147483647", true);
        truth("2 == 2", true);
        truth("2 != 2", false);
        truth("true == false", false);
        truth("true != false", true);
        truth("! true", false);
        truth("! ! true", true);
        truth("true && false", false);
        truth("true && true", true);
        truth("false || false", false);
        truth("false || true", true);
        truth("true || true && false", true);
        truth("( true || true ) && false", false);
        truth("if ( false , true , false ) == ( 1 > 2 )", true);
        truth("true == ( false && true )", false);
        truth("false == ( true || false )", false);
        truth("true == ( true || false ) && 1 + if ( false && true , 1 , 2 ) == 3", true);
    }

    /** What is not needed is not worked out: else it would fail. */
    private static void shortWays() {
        truth("false && 1 / 0 == 1", false);
        truth("true || 1 / 0 == 1", true);
        truth("false && true || true", true);
        value("if ( true , 1 , 1 / 0 )", 1);
        value("if ( false , 1 / 0 , 2 )", 2);
        value("if ( true || draw ( 0 ) == 0 , 1 , 2 )", 1);
    }

    private static int mix(int seed, int node, int turn, int drawn) {
        int h = seed;
        for (int x : new int[] {node, turn, drawn}) {
            h = (h ^ x) * 0x9E3779B1;
            h = h ^ h >>> 15;
        }
        return h;
    }

    private static void drawing() {
        Desk desk = Desk.with("node a : int = 0 ; node b : int = 0 ; node c : int = 0 ; start { a = draw ( 2147483647 ) ; "
            + "b = draw ( 10 ) ; c = draw ( 1 ) ; } round { a = draw ( 1000 ) ; b = draw ( 2147483647 ) - draw ( 7 ) ; }", 3);
        for (int seed : new int[] {0, 1, -1, 99, Integer.MIN_VALUE}) {
            desk.x.begin(seed);
            desk.x.run(1);
            for (int node = 0; node < 3; node++) {
                Desk.due("draw, seed " + seed + ", node " + node, desk.states(node),
                    Integer.remainderUnsigned(mix(seed, node, 0, 0), 2147483647) + " "
                    + Integer.remainderUnsigned(mix(seed, node, 0, 1), 10) + " 0");
            }
            desk.x.run(2);
            Desk.due("draw in turn 2, seed " + seed, desk.states(1),
                Integer.remainderUnsigned(mix(seed, 1, 2, 0), 1000) + " "
                + (Integer.remainderUnsigned(mix(seed, 1, 2, 1), 2147483647)
                - Integer.remainderUnsigned(mix(seed, 1, 2, 2), 7)) + " 0");
        }
        // by hand: seed 0, node 0, TURN 0, none drawn: 0 all through
        desk.x.begin(0);
        desk.x.run(1);
        Desk.due("draw of all zeros", desk.x.state(0, 0), 0);
    }

    /** Programs on one object, each with all its own: none of what was before is left. */
    private static void oneBehindAnother() {
        Desk desk = new Desk();
        for (int i = 0; i < 12; i++) {
            desk.load("node v : int = " + i + " ; start { v = v" + " + 1".repeat(150) + " ; } round { v = v - 1 ; }");
            desk.x.begin(0);
            Desk.due("v at first, program " + i, desk.x.state(0, 0), i);
            Desk.due("run(3), program " + i, desk.x.run(3), 3);
            Desk.due("v, program " + i, desk.x.state(0, 0), i + 148);
        }
    }

    private static void weightsOfArcs() {
        Desk desk = Desk.with("column v ; column w ; fold f : sum ; fold h : most ; start { send f arc . v * 10 + arc . w along ; "
            + "send h arc . w against ; } round { }", 3, 0, 1, 0, 1, 1, 2);
        for (int arc = 0; arc < 3; arc++) {
            desk.x.weight(arc, 0, arc + 1);
            desk.x.weight(arc, 1, 5 - arc);
        }
        desk.x.begin(0);
        desk.x.run(1);
        Desk.due("message(1, 0)", desk.x.message(1, 0), 15 + 24);
        Desk.due("message(2, 0)", desk.x.message(2, 0), 33);
        Desk.due("message(0, 1)", desk.x.message(0, 1), 5);
        Desk.due("message(1, 1)", desk.x.message(1, 1), 3);
        Desk.due("messages(0, 1)", desk.x.messages(0, 1), 2);
    }
}
