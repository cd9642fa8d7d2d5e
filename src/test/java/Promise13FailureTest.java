/** Promise 13, on what it rests: FAILURES 1 to 3, STEPS up to 1,000, and that a TURN that failed leaves all as it was. */
public final class Promise13FailureTest {
    public static void main(String[] args) {
        Desk.held("13 FAILURE 1: divided by 0", Promise13FailureTest::divided);
        Desk.held("13 FAILURE 1: 0 alone: 1 and - 1 divide", Promise13FailureTest::nextToZero);
        Desk.held("13 FAILURE 2: draw of less than 1", Promise13FailureTest::drawn);
        Desk.held("13 FAILURE 3: more than 1,000 STEPS of a node in a turn", Promise13FailureTest::tooManySteps);
        Desk.held("13 FAILURE 3: of one node, of one turn: all together may have more", Promise13FailureTest::ofOneNode);
        Desk.held("13 STEPS: each statement that is begun", Promise13FailureTest::statements);
        Desk.held("13 STEPS: each repeat of a loop", Promise13FailureTest::repeats);
        Desk.held("13 STEPS: each arc of a send", Promise13FailureTest::arcs);
        Desk.held("13 STEPS: each operand or operator of an exp that is worked out", Promise13FailureTest::operands);
        Desk.held("13 STEPS: of && || if what is worked out alone", Promise13FailureTest::asFarAsNeeded);
        Desk.held("13 STEPS: just 1,000, and the 1,001st of each sort", Promise13FailureTest::atTheLimit);
        Desk.held("13 STEPS: an operator's comes behind those of its operands, its own FAILURE behind that",
            Promise13FailureTest::ownFailureBehind);
        Desk.held("13 STEPS: of && || if behind those of the first", Promise13FailureTest::behindTheFirst);
        Desk.held("13 a FAILURE: the turn is not done: all is as before it", Promise13FailureTest::allStays);
        Desk.held("13 a FAILURE: a hundred of them, then a TURN that is done", Promise13FailureTest::failingOften);
        Desk.held("13 a FAILURE: the first that is met", Promise13FailureTest::firstThatIsMet);
        Desk.close();
    }

    private static Desk fails(String marked, int nodes, int failure, int node, int turn) {
        int place = marked.indexOf('@');
        String text = marked.substring(0, place) + marked.substring(place + 1);
        Desk desk = Desk.begun(text, nodes);
        Desk.due("run(50) of " + text, desk.x.run(50), Desk.FAILED);
        Desk.due("told(0, 4 .. 7) of " + text, desk.told(0, 4, 5, 6, 7),
            turn + " " + failure + " " + node + " " + place + " " + turn);
        return desk;
    }

    private static void divided() {
        fails("start { let a = 1 @/ 0 ; } round { }", 1, 1, 0, 0);
        fails("start { let a = 1 @% 0 ; } round { }", 1, 1, 0, 0);
        fails("start { let a = 0 @/ 0 ; } round { }", 1, 1, 0, 0);
        fails("start { let a = 6 / 2 @/ ( 3 - 3 ) / 0 ; } round { }", 1, 1, 0, 0);
        fails("start { let a = 5 @/ ( id - 2 ) ; } round { }", 4, 1, 2, 0);
        fails("start { } round { if turn > 2 { let a = 5 @% ( 4 - id - 2 ) ; } }", 4, 1, 2, 3);
        fails("start { let a = 1 + if ( true , 2 @/ 0 , draw ( 0 ) ) ; } round { }", 1, 1, 0, 0);
        fails("start { let a = ( - 2147483647 - 1 ) @/ ( 2147483647 + 1 + 2147483647 + 1 ) ; } round { }", 1, 1, 0, 0);
        fails("global g : sum ; start { give g 1 @/ 0 ; } round { }", 1, 1, 0, 0);
        fails("start { if 1 @/ 0 == 1 { } } round { }", 1, 1, 0, 0);
    }

    private static void nextToZero() {
        Desk desk = Desk.begun("node a : int = 0 ; node b : int = 0 ; start { a = 5 / 1 + 5 / - 1 ; b = 5 % 1 + 5 % - 1 ; } round { }", 1);
        Desk.due("run(1)", desk.x.run(1), 1);
        Desk.due("told(4)", desk.x.told(4), 0);
        Desk.due("states", desk.states(0), "0 0");
    }

    private static void drawn() {
        fails("start { let a = @draw ( 0 ) ; } round { }", 1, 2, 0, 0);
        fails("start { let a = 1 + @draw ( - 1 ) ; } round { }", 1, 2, 0, 0);
        fails("start { let a = @draw ( - 2147483647 - 1 ) ; } round { }", 1, 2, 0, 0);
        fails("start { let a = draw ( 1 + @draw ( 0 ) ) ; } round { }", 1, 2, 0, 0);
        fails("start { let a = @draw ( draw ( 1 ) ) ; } round { }", 1, 2, 0, 0);
        fails("start { let a = draw ( 5 - 4 ) ; } round { let a = @draw ( 1 - id ) ; }", 2, 2, 1, 1);
        Desk desk = Desk.begun("node a : int = 7 ; start { a = draw ( 1 ) ; } round { }", 1);
        Desk.due("run(1) with draw ( 1 )", desk.x.run(1), 1);
        Desk.due("draw ( 1 )", desk.x.state(0, 0), 0);
    }

    private static void tooManySteps() {
        fails("start { loop 100 { loop 100 { @let a = 1 ; } } } round { }", 1, 3, 0, 0);
        fails("start { loop 100 { @loop 100 { } } } round { }", 1, 3, 0, 0);
        fails("start { } round { if id == 3 { loop 100 { loop 10 { @let a = id ; } } } }", 5, 3, 3, 1);
        fails("start { loop 100 { @let x = 1 + 1 + 1 + 1 + 1 ; } } round { }", 1, 3, 0, 0);
        fails("start { loop 100 { @if 1 + 1 + 1 + 1 == 4 { } } } round { }", 1, 3, 0, 0);
        // 1 of the loop; a repeat is 10: 1 and 9 of the statement: the hundredth repeat ends with STEP 1,001
        fails("start { loop 100 { @let x = - 1 + 1 + 1 + 1 ; } } round { }", 1, 3, 0, 0);
        // the same with 9: 901, and all is well
        Desk desk = Desk.begun("start { loop 100 { let x = 1 + 1 + 1 + 1 ; } } round { }", 1);
        Desk.due("run(1) with 901 STEPS", desk.x.run(1), 1);
        Desk.due("told(9)", desk.x.told(9), 901);
        desk = Desk.with("fold f : sum ; start { loop 10 { send f 1 along ; } } round { }", 2);
        for (int i = 0; i < 120; i++) {
            desk.x.arc(0, 1);
        }
        desk.x.begin(0);
        Desk.due("run(1) of 10 sends along 120 arcs", desk.x.run(1), Desk.FAILED);
        Desk.due("told(2, 4, 5, 6, 7) of it", desk.told(2, 4, 5, 6, 7), "0 3 0 33 0");
    }

    private static void ofOneNode() {
        // 883 STEPS of each of forty nodes, 982 in TURN 0
        String body = "{ loop 98 { let x = 1 + 1 + 1 + 1 ; } }";
        Desk desk = Desk.begun("start { loop 98 { let x = 1 + 1 + 1 + 1 ; } loop 98 { } } round " + body, 40);
        Desk.due("run(3)", desk.x.run(3), 3);
        Desk.due("told(9)", desk.x.told(9), 40 * 883);
        Desk.due("told(4)", desk.x.told(4), 0);
        desk.x.undo();
        desk.x.undo();
        desk.x.undo();
        Desk.due("run(1)", desk.x.run(1), 1);
        Desk.due("told(9) of TURN 0", desk.x.told(9), 40 * 982);
    }

    /** So many STEPS of node 0 in 'start', in a graph with arcs 0 - 1, 0 - 1, 1 - 0. */
    private static void steps(String statements, int want) {
        Desk desk = Desk.begun("column w ; node i : int = 1 ; node b : bool = true ; fold f : sum ; global g : sum ; start { "
            + "if id == 0 { " + statements + " } } round { }", 2, 0, 1, 0, 1, 1, 0);
        Desk.due("run(1) of " + statements, desk.x.run(1), 1);
        // the if with its three: 4, of each of the two nodes
        Desk.due("STEPS of " + statements, desk.x.told(9), want + 8);
    }

    private static void statements() {
        steps("", 0);
        steps("halt ;", 1);
        steps("halt ; halt ;", 1);
        steps("i = 1 ;", 2);
        steps("let x = i ;", 2);
        steps("let x = i ; x = x + x ;", 6);
        steps("give g 1 ;", 2);
        steps("if b { }", 2);
        steps("if b { } else { }", 2);
        steps("if b { i = 1 ; } else { i = 1 + 1 ; }", 4);
        steps("if ! b { i = 1 ; } else { i = 1 + 1 ; }", 7);
        steps("if ! b { i = 1 ; }", 3);
        steps("i = 1 ; halt ; i = 1 ;", 3);
    }

    private static void repeats() {
        steps("loop 0 { i = 1 ; }", 1);
        steps("loop 1 { }", 2);
        steps("loop 3 { }", 4);
        steps("loop 100 { }", 101);
        steps("loop 3 { i = 1 ; }", 10);
        steps("loop 3 { loop 2 { } }", 1 + 3 * 4);
        steps("loop 3 { loop 0 { } }", 7);
        steps("loop 3 { halt ; }", 3);
        steps("loop 3 { if i == 3 { halt ; } i = i + 1 ; }", 1 + 2 * 9 + 6);
    }

    private static void arcs() {
        steps("send f 1 along ;", 5);
        steps("send f 1 against ;", 3);
        steps("send f arc . w along ;", 5);
        steps("send f arc . w * 2 + 1 along ;", 13);
        Desk desk = Desk.begun("fold f : sum ; start { send f 1 along ; send f 1 against ; } round { }", 3);
        desk.x.run(1);
        Desk.due("STEPS of sends without arcs", desk.x.told(9), 6);
    }

    private static void operands() {
        steps("i = ( ( 1 ) ) ;", 2);
        steps("i = - 1 ;", 3);
        steps("i = - - - 1 ;", 5);
        steps("i = 1 + 2 * 3 ;", 6);
        steps("i = 1 - 2 / 3 % 4 ;", 8);
        steps("b = ! b ;", 3);
        steps("b = true ;", 2);
        steps("b = false ;", 2);
        steps("b = 1 < 2 ;", 4);
        steps("b = b == b ;", 4);
        steps("b = has f ;", 2);
        steps("i = id + turn + nodes + degree + indegree + f + g ;", 14);
        steps("i = draw ( 5 ) ;", 3);
        steps("i = draw ( draw ( 5 ) + 1 ) ;", 6);
    }

    private static void asFarAsNeeded() {
        steps("b = true && false ;", 4);
        steps("b = false && true ;", 3);
        steps("b = true || false ;", 3);
        steps("b = false || true ;", 4);
        steps("b = b && b && b ;", 6);
        steps("b = ! b && b && b ;", 5);
        steps("b = b || b || b ;", 4);
        steps("b = ! b || ! b || b ;", 8);
        steps("b = ! b && 1 < 2 || b ;", 6);
        steps("i = if ( b , 1 , 2 + 3 ) ;", 4);
        steps("i = if ( ! b , 1 , 2 + 3 ) ;", 7);
        steps("i = if ( b , if ( b , 1 , 2 ) , 3 ) + 1 ;", 8);
    }

    /** A first statement and others, so that so many STEPS are done ahead of what comes next. */
    private static Desk filled(int steps, String statements, int... ends) {
        // loop 100 with let x = 1 + 1 + 1 in it: 1 + 100 * 7; the rest by one long sum
        StringBuilder text = new StringBuilder("node v : int = 0 ; fold f : sum ; global g : sum ; start { loop 100 { "
            + "let x = 1 + 1 + 1 ; } ");
        int left = steps - 701;
        if (left % 2 == 1) {
            text.append("loop 0 { } ");
            left--;
        }
        text.append("v = 1").append(" + 1".repeat(left / 2 - 1));
        return Desk.begun(text.append(" ; ").append(statements).append(" } round { }").toString(), 1, ends);
    }

    private static void within(int steps, String statements, int... ends) {
        Desk desk = filled(steps, statements, ends);
        Desk.due("run(1) with " + steps + " STEPS ahead of " + statements, desk.x.run(1), 1);
        Desk.due("told(9)", desk.x.told(9), 1000);
        Desk.due("told(4)", desk.x.told(4), 0);
    }

    private static void beyond(int failure, int steps, String statements, int... ends) {
        Desk desk = filled(steps, statements, ends);
        Desk.due("run(1) with " + steps + " STEPS ahead of " + statements, desk.x.run(1), Desk.FAILED);
        Desk.due("told(4)", desk.x.told(4), failure);
        Desk.due("told(9)", desk.x.told(9), 0);
        Desk.due("v", desk.x.state(0, 0), 0);
    }

    private static void atTheLimit() {
        within(1000, "");
        within(998, "v = 7 ;");
        beyond(3, 999, "v = 7 ;");
        within(999, "halt ;");
        beyond(3, 1000, "halt ;");
        within(999, "loop 0 { }");
        beyond(3, 1000, "loop 0 { }");
        within(998, "loop 1 { }");
        beyond(3, 999, "loop 1 { }");
        within(990, "loop 9 { }");
        beyond(3, 991, "loop 9 { }");
        within(999, "send f 1 along ;");
        beyond(3, 1000, "send f 1 along ;");
        within(997, "send f 1 along ;", 0, 0);
        beyond(3, 998, "send f 1 along ;", 0, 0);
        beyond(3, 999, "send f 1 along ;", 0, 0);
        within(998, "give g 1 ;");
        beyond(3, 999, "give g 1 ;");
        within(998, "if true { }");
        beyond(3, 999, "if true { }");
        within(996, "v = 1 + 1 ;");
        beyond(3, 997, "v = 1 + 1 ;");
        within(997, "v = - 1 ;");
        beyond(3, 998, "v = - 1 ;");
        within(997, "v = draw ( 1 ) ;");
        beyond(3, 998, "v = draw ( 1 ) ;");
        // a halt ahead of what would be too many
        within(999, "halt ; v = 7 ;");
    }

    private static void ownFailureBehind() {
        beyond(1, 996, "v = 1 / 0 ;");
        beyond(3, 997, "v = 1 / 0 ;");
        beyond(1, 996, "v = 1 % 0 ;");
        beyond(3, 997, "v = 1 % 0 ;");
        beyond(2, 997, "v = draw ( 0 ) ;");
        beyond(3, 998, "v = draw ( 0 ) ;");
        // both operands come first: the second one fails ahead of the operator's STEP
        fails("start { let a = 1 @/ 0 + 1 / 0 ; } round { }", 1, 1, 0, 0);
        fails("start { let a = @draw ( 0 ) / ( 1 / 0 ) ; } round { }", 1, 2, 0, 0);
        fails("start { let a = 1 / ( 1 @/ 0 ) ; } round { }", 1, 1, 0, 0);
    }

    private static void behindTheFirst() {
        within(997, "if false && true { }");
        within(996, "if true && false { }");
        beyond(3, 998, "if false && 1 / 0 == 1 { }");
        beyond(3, 997, "if true && 1 / 0 == 1 { }");
        beyond(1, 994, "if true && 1 / 0 == 1 { }");
        beyond(3, 995, "if true && 1 / 0 == 1 { }");
        within(997, "if true || 1 / 0 == 1 { }");
        beyond(3, 998, "if true || 1 / 0 == 1 { }");
        within(996, "v = if ( true , 1 , 1 / 0 ) ;");
        beyond(3, 997, "v = if ( true , 1 , 1 / 0 ) ;");
        beyond(1, 994, "v = if ( false , 1 , 1 / 0 ) ;");
        beyond(3, 995, "v = if ( false , 1 , 1 / 0 ) ;");
    }

    /** Nodes 0 and 1 have done much when node 2 fails: nothing of it is left, and the TURNS before are done. */
    private static void allStays() {
        Desk desk = Desk.begun("node v : int = 0 ; fold f : sum ; global g : sum ; start { v = 1 ; send f 10 along ; give g 5 ; } "
            + "round { v = v + f ; send f v along ; send f v along ; give g 100 ; if id == 1 { halt ; } "
            + "if turn == 3 { v = 1 / ( id - 2 ) ; } }", 3, 0, 1, 1, 2, 2, 0);
        desk.x.run(3);
        String before = desk.standing() + desk.told(8, 9);
        Desk.due("run(1)", desk.x.run(1), Desk.FAILED);
        Desk.due("all is as before the turn", desk.standing() + desk.told(8, 9), before);
        Desk.due("run(7) again", desk.x.run(7), Desk.FAILED);
        Desk.due("all is as before the turn again", desk.standing() + desk.told(8, 9), before);
        Desk.due("undo()", desk.x.undo(), 2);
        Desk.due("run(5): one is done, then it fails", desk.x.run(5), Desk.FAILED);
        Desk.due("all is as it was", desk.standing(), before.substring(0, before.length() - desk.told(8, 9).length()));
    }

    /** Where a TURN fails in the midst of an exp, a hundred times: the next one that is done is none the worse. */
    private static void failingOften() {
        Desk desk = Desk.begun("column w ; fold f : sum ; fold h : sum ; start { loop 2 { send f 1 + ( 2 + ( 3 + ( 4 + ( 5 + ( 6 + "
            + "12 / arc . w ) ) ) ) ) along ; } send h draw ( 1000 ) along ; } round { }", 2, 0, 1);
        for (int i = 0; i < 100; i++) {
            Desk.due("run(1)", desk.x.run(1), Desk.FAILED);
        }
        desk.x.weight(0, 0, 2);
        Desk.due("run(1)", desk.x.run(1), 1);
        Desk.due("message(1, 0)", desk.x.message(1, 0), 54);
        Desk.due("messages(1, 0)", desk.x.messages(1, 0), 2);
        Desk.due("message(1, 1): the first draw", desk.x.message(1, 1), 0);
        Desk.due("told(9)", desk.x.told(9), 1 + 2 * 18 + 4 + 1 + 2 * 2 + 1);
    }

    private static void firstThatIsMet() {
        // of nodes the one with the least number, of statements the first
        fails("start { let a = 1 @/ ( id / 2 - 1 ) ; let b = draw ( 2 - id ) ; } round { }", 4, 1, 2, 0);
        fails("start { let b = @draw ( 2 - id ) ; let a = 1 / ( id - 3 ) ; } round { }", 4, 2, 2, 0);
        Desk desk = fails("start { } round { let b = @draw ( 3 - turn ) ; }", 4, 2, 0, 3);
        Desk.due("run(1) once more", desk.x.run(1), Desk.FAILED);
        Desk.due("told(4 .. 7)", desk.told(4, 5, 6, 7), "2 0 26 3");
    }
}
