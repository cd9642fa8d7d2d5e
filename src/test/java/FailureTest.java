/** FAILURES and STEPS, in promises 13 (run) and 15 (told): which, whose, where, when, and that all stays as it was. */
public final class FailureTest {
    public static void main(String[] args) {
        divided();
        drawn();
        allStays();
        steps();
        tooManySteps();
        atTheLimit();
        Desk.close();
    }

    private static Desk fails(String marked, int nodes, int failure, int node, int turn) {
        int place = marked.indexOf('@');
        String text = marked.substring(0, place) + marked.substring(place + 1);
        Desk desk = Desk.with(text, nodes);
        desk.x.begin(0);
        Desk.due("run(50) of " + text, desk.x.run(50), Desk.FAILED);
        Desk.due("told(0) of " + text, desk.x.told(0), turn);
        Desk.due("told(4) of " + text, desk.x.told(4), failure);
        Desk.due("told(5) of " + text, desk.x.told(5), node);
        Desk.due("told(6) of " + text, desk.x.told(6), place);
        Desk.due("told(7) of " + text, desk.x.told(7), turn);
        return desk;
    }

    private static void divided() {
        fails("start { let a = 1 @/ 0 ; } round { }", 1, 1, 0, 0);
        fails("start { let a = 1 @% 0 ; } round { }", 1, 1, 0, 0);
        fails("start { let a = 6 / 2 @/ ( 3 - 3 ) / 0 ; } round { }", 1, 1, 0, 0);
        fails("start { let a = 5 @/ ( id - 2 ) ; } round { }", 4, 1, 2, 0);
        fails("start { } round { if turn > 2 { let a = 5 @% ( 4 - id - 2 ) ; } }", 4, 1, 2, 3);
        fails("start { let a = 1 + if ( true , 2 @/ 0 , draw ( 0 ) ) ; } round { }", 1, 1, 0, 0);
    }

    private static void drawn() {
        fails("start { let a = @draw ( 0 ) ; } round { }", 1, 2, 0, 0);
        fails("start { let a = 1 + @draw ( - 1 ) ; } round { }", 1, 2, 0, 0);
        fails("start { let a = draw ( 1 + @draw ( 0 ) ) ; } round { }", 1, 2, 0, 0);
        fails("start { let a = @draw ( draw ( 1 ) ) ; } round { }", 1, 2, 0, 0);
        fails("start { let a = draw ( 5 - 4 ) ; } round { let a = @draw ( 1 - id ) ; }", 2, 2, 1, 1);
    }

    /** Nodes 0 and 1 have done much when node 2 fails: nothing of it is left, and the TURNS before are done. */
    private static void allStays() {
        Desk desk = Desk.with("node v : int = 0 ; fold f : sum ; global g : sum ; start { v = 1 ; send f 10 along ; give g 5 ; } "
            + "round { v = v + f ; send f v along ; send f v along ; give g 100 ; if id == 1 { halt ; } "
            + "if turn == 3 { v = 1 / ( id - 2 ) ; } }", 3, 0, 1, 1, 2, 2, 0);
        desk.x.begin(0);
        desk.x.run(3);
        String told = all(desk);
        Desk.due("run(1)", desk.x.run(1), Desk.FAILED);
        Desk.due("all is as before the turn", all(desk), told);
        Desk.due("run(7) again", desk.x.run(7), Desk.FAILED);
        Desk.due("all is as before the turn again", all(desk), told);
        Desk.due("undo()", desk.x.undo(), 2);
        Desk.due("the FAILURE is told still", desk.x.told(4), 1);
        Desk.due("its TURN is told still", desk.x.told(7), 3);
        Desk.due("run(5): one is done, then it fails", desk.x.run(5), Desk.FAILED);
        Desk.due("all is as it was", all(desk), told);
        desk.x.begin(0);
        for (int what = 4; what <= 7; what++) {
            Desk.due("told(" + what + ") behind begin()", desk.x.told(what), 0);
        }
    }

    private static String all(Desk desk) {
        StringBuilder out = new StringBuilder(desk.column(0));
        for (int what : new int[] {0, 1, 2, 3, 8, 9}) {
            out.append(" told ").append(desk.x.told(what));
        }
        for (int node = 0; node < 3; node++) {
            out.append(" fold ").append(desk.x.message(node, 0)).append(' ').append(desk.x.messages(node, 0));
            out.append(" halted ").append(desk.x.halted(node));
        }
        return out.append(" global ").append(desk.x.global(0)).toString();
    }

    /** So many STEPS of node 0 in 'start', in a graph with arcs 0 - 1, 0 - 1, 1 - 0. */
    private static void steps(String statements, int want) {
        Desk desk = Desk.with("column w ; node i : int = 1 ; node b : bool = true ; fold f : sum ; global g : sum ; start { "
            + "if id == 0 { " + statements + " } } round { }", 2, 0, 1, 0, 1, 1, 0);
        desk.x.begin(0);
        Desk.due("run(1) of " + statements, desk.x.run(1), 1);
        // the if with its three: 4, of each of the two nodes
        Desk.due("STEPS of " + statements, desk.x.told(9), want + 8);
    }

    private static void steps() {
        steps("", 0);
        steps("halt ;", 1);
        steps("halt ; halt ;", 1);
        steps("i = 1 ;", 2);
        steps("i = ( ( 1 ) ) ;", 2);
        steps("i = - 1 ;", 3);
        steps("i = 1 + 2 * 3 ;", 6);
        steps("let x = i ;", 2);
        steps("let x = i ; x = x + x ;", 6);
        steps("b = ! b ;", 3);
        steps("b = has f ;", 2);
        steps("i = id + turn + nodes + degree + indegree + f + g ;", 14);
        steps("i = draw ( 5 ) ;", 3);
        steps("give g 1 ;", 2);
        steps("send f 1 along ;", 5);
        steps("send f 1 against ;", 3);
        steps("send f arc . w along ;", 5);
        steps("send f arc . w * 2 + 1 along ;", 13);
        steps("if b { }", 2);
        steps("if b { i = 1 ; } else { i = 1 + 1 ; }", 4);
        steps("if ! b { i = 1 ; } else { i = 1 + 1 ; }", 7);
        steps("loop 0 { i = 1 ; }", 1);
        steps("loop 3 { }", 4);
        steps("loop 3 { i = 1 ; }", 10);
        steps("loop 3 { loop 2 { } }", 1 + 3 * 4);
        steps("loop 3 { halt ; }", 3);
        steps("b = true && false ;", 4);
        steps("b = false && true ;", 3);
        steps("b = true || false ;", 3);
        steps("b = false || true ;", 4);
        steps("b = b && b && b ;", 6);
        steps("i = if ( b , 1 , 2 + 3 ) ;", 4);
        steps("i = if ( ! b , 1 , 2 + 3 ) ;", 7);
    }

    private static void tooManySteps() {
        fails("start { loop 100 { loop 100 { @let a = 1 ; } } } round { }", 1, 3, 0, 0);
        fails("start { loop 100 { @loop 100 { } } } round { }", 1, 3, 0, 0);
        fails("start { } round { if id == 3 { loop 100 { loop 10 { @let a = id ; } } } }", 5, 3, 3, 1);
        fails("start { loop 100 { @let x = 1 + 1 + 1 + 1 + 1 ; } } round { }", 1, 3, 0, 0);
        fails("start { loop 100 { @if 1 + 1 + 1 + 1 == 4 { } } } round { }", 1, 3, 0, 0);
        // 1 of the loop; a repeat is 10: 1 and 9 of the statement: the hundredth repeat ends with STEP 1,001
        fails("start { loop 100 { @let x = - 1 + 1 + 1 + 1 ; } } round { }", 1, 3, 0, 0);
        Desk desk = Desk.with("fold f : sum ; start { loop 10 { send f 1 along ; } } round { }", 2);
        for (int i = 0; i < 120; i++) {
            desk.x.arc(0, 1);
        }
        desk.x.begin(0);
        Desk.due("run(1) of 10 sends along 120 arcs", desk.x.run(1), Desk.FAILED);
        Desk.due("told(6) of it", desk.x.told(6), 33);
        Desk.due("told(4) of it", desk.x.told(4), 3);
        Desk.due("told(2) of it", desk.x.told(2), 0);
    }

    /** A first statement with so many STEPS (2, or odd ones of 2 more), ahead of others that make it 1,000 in all. */
    private static Desk filled(int steps, String statements) {
        // loop 100 with let x = 1 + 1 + 1 in it: 1 + 100 * 7; the rest by one long sum
        StringBuilder text = new StringBuilder("node v : int = 0 ; start { loop 100 { let x = 1 + 1 + 1 ; } ");
        int left = steps - 701;
        while (left > 1 && left % 2 == 1) {
            text.append("loop 0 { } ");
            left--;
        }
        text.append("v = 1");
        left -= 2;
        while (left > 0) {
            text.append(" + 1");
            left -= 2;
        }
        text.append(" ; ").append(statements).append(" } round { }");
        Desk desk = Desk.with(text.toString(), 1);
        desk.x.begin(0);
        return desk;
    }

    private static void atTheLimit() {
        Desk desk = filled(998, "v = 7 ;");
        Desk.due("1,000 STEPS", desk.x.run(1), 1);
        Desk.due("told(9)", desk.x.told(9), 1000);
        Desk.due("v", desk.x.state(0, 0), 7);
        desk = filled(999, "v = 7 ;");
        Desk.due("1,001 STEPS", desk.x.run(1), Desk.FAILED);
        Desk.due("told(4)", desk.x.told(4), 3);
        Desk.due("v", desk.x.state(0, 0), 0);
        desk = filled(1000, "");
        Desk.due("just 1,000 STEPS", desk.x.run(1), 1);
        desk = filled(1000, "loop 0 { }");
        Desk.due("a statement that is begun is the 1,001st", desk.x.run(1), Desk.FAILED);
        desk = filled(999, "loop 1 { }");
        Desk.due("a repeat is the 1,001st", desk.x.run(1), Desk.FAILED);
        desk = filled(996, "v = 1 / 0 ;");
        Desk.due("the / is the 1,000th", desk.x.run(1), Desk.FAILED);
        Desk.due("it fails on its own", desk.x.told(4), 1);
        desk = filled(997, "v = 1 / 0 ;");
        Desk.due("the / is the 1,001st", desk.x.run(1), Desk.FAILED);
        Desk.due("too many STEPS are ahead of its own FAILURE", desk.x.told(4), 3);
        desk = filled(997, "v = draw ( 0 ) ;");
        Desk.due("the draw is the 1,000th", desk.x.run(1), Desk.FAILED);
        Desk.due("it fails on its own", desk.x.told(4), 2);
        desk = filled(998, "v = draw ( 0 ) ;");
        Desk.due("the draw is the 1,001st", desk.x.run(1), Desk.FAILED);
        Desk.due("too many STEPS are ahead of its own FAILURE", desk.x.told(4), 3);
    }
}
