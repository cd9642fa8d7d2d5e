/** Promise 5, FAULT 5: at the first TOKEN of an exp, or operand, that has another kind than it has to have. */
public final class Promise05KindsTest {
    private static final String ALL = "column w ; node i : int = 1 ; node b : bool = true ; fold f : sum ; fold h : some ; "
        + "global g : least ; global k : all ; ";
    private static final String[] INTS = {"1", "i", "f", "g", "id", "turn", "nodes", "degree", "indegree", "draw ( 1 )", "- 1",
        "( 1 )", "( 1 + 1 )", "if ( b , 1 , 2 )", "n"};
    private static final String[] BOOLS = {"true", "false", "b", "h", "k", "has f", "has h", "! b", "( b )", "( 1 < 2 )",
        "( b && b )", "( b == b )", "if ( b , b , b )", "t"};
    private static final String LETS = "let n = 1 ; let t = true ; ";

    public static void main(String[] args) {
        for (String operator : "+ - * / % < <= > >=".split(" ")) {
            Desk.held("5 FAULT 5: " + operator + " of ints", () -> ofTwo(operator, INTS, BOOLS));
        }
        for (String operator : "&& ||".split(" ")) {
            Desk.held("5 FAULT 5: " + operator + " of bools", () -> ofTwo(operator, BOOLS, INTS));
        }
        for (String operator : "== !=".split(" ")) {
            Desk.held("5 FAULT 5: " + operator + " of two of one kind, the second one like the first", () -> ofOneKind(operator));
        }
        Desk.held("5 FAULT 5: -, ! and draw of one kind", Promise05KindsTest::ofOne);
        Desk.held("5 FAULT 5: comparing, && || ! give a bool, the rest ints", Promise05KindsTest::results);
        Desk.held("5 FAULT 5: if, conditions: a bool", Promise05KindsTest::conditions);
        Desk.held("5 FAULT 5: the last two parts of an if ( , , ) have one kind", Promise05KindsTest::lastTwoParts);
        Desk.held("5 FAULT 5: a state, let gets its own kind", Promise05KindsTest::ownKind);
        Desk.held("5 FAULT 5: a fold, global gets its own kind: all, some bool, others int", Promise05KindsTest::ways);
        Desk.held("5 FAULT 5: the same where it is the first that is told", Promise05KindsTest::firstTold);
        Desk.held("5 FAULT 5: a let has the kind of its exp", Promise05KindsTest::kindOfLets);
        Desk.held("5 FAULT 5: exps of every line of the grammar, in every place", Promise05KindsTest::everyLine);
        Desk.held("5 FAULT 5: at the first TOKEN, a ( too", Promise05KindsTest::firstTokens);
        Desk.held("5 a NAME with FAULT 4, and has, arc . with it, are of any KIND", Promise05KindsTest::anyKind);
        Desk.close();
    }

    private static void inStart(int number, String marked) {
        Desk.faulty(number, ALL + "start { " + LETS + marked + " } round { }");
    }

    private static void fine(int statements, String text) {
        Desk.right(statements + 2, ALL + "start { " + LETS + text + " } round { }");
    }

    private static void ofTwo(String operator, String[] fitting, String[] others) {
        for (String one : fitting) {
            fine(2, "let x = " + one + " " + operator + " " + fitting[0] + " ; let y = " + fitting[1] + " " + operator + " " + one + " ;");
        }
        for (String other : others) {
            inStart(5, "let x = @" + other + " " + operator + " " + fitting[0] + " ;");
            inStart(5, "let x = " + fitting[0] + " " + operator + " @" + other + " ;");
            inStart(5, "let x = @" + other + " " + operator + " " + other + " ;");
        }
    }

    private static void ofOneKind(String operator) {
        for (String one : INTS) {
            fine(1, "b = " + one + " " + operator + " i ;");
            inStart(5, "b = " + one + " " + operator + " @b ;");
            inStart(5, "b = b " + operator + " @" + one + " ;");
        }
        for (String one : BOOLS) {
            fine(1, "b = b " + operator + " " + one + " ;");
            inStart(5, "b = " + one + " " + operator + " @1 ;");
            inStart(5, "b = 1 " + operator + " @" + one + " ;");
        }
        inStart(5, "i = @1 " + operator + " 1 ;");
        inStart(5, "i = @b " + operator + " b ;");
    }

    private static void ofOne() {
        for (String one : INTS) {
            fine(2, "i = - " + one + " ; i = draw ( " + one + " ) ;");
            inStart(5, "b = ! @" + one + " ;");
        }
        for (String one : BOOLS) {
            fine(1, "b = ! " + one + " ;");
            inStart(5, "i = - @" + one + " ;");
            inStart(5, "i = draw ( @" + one + " ) ;");
        }
        inStart(5, "b = @- 1 ;");
        inStart(5, "i = @! b ;");
        inStart(5, "b = @draw ( 1 ) ;");
        inStart(5, "b = ! @- 1 ;");
    }

    private static void results() {
        for (String operator : "+ - * / %".split(" ")) {
            fine(1, "i = 1 " + operator + " 2 ;");
            inStart(5, "b = @1 " + operator + " 2 ;");
        }
        for (String operator : "< <= > >= == !=".split(" ")) {
            fine(1, "b = 1 " + operator + " 2 ;");
            inStart(5, "i = @1 " + operator + " 2 ;");
        }
        for (String operator : "&& ||".split(" ")) {
            fine(1, "b = b " + operator + " b ;");
            inStart(5, "i = @b " + operator + " b ;");
        }
        inStart(5, "b = b || @i + 1 ;");
        inStart(5, "b = b || b && @1 ;");
        inStart(5, "b = b != @i * 2 ;");
        inStart(5, "send h @arc . w along ;");
        fine(1, "send f arc . w along ;");
    }

    private static void conditions() {
        inStart(5, "if @1 { }");
        inStart(5, "if @( 1 ) + 1 { }");
        inStart(5, "if @i { } else { }");
        inStart(5, "i = if ( @1 , 2 , 3 ) ;");
        inStart(5, "i = if ( @i + 1 , 2 , 3 ) ;");
        inStart(5, "if b { i = @b ; }");
        inStart(5, "if b { } else { i = @b ; }");
        inStart(5, "loop 1 { if @1 { } }");
        fine(2, "if b && 1 < 2 { } i = if ( ! b , 1 , 2 ) ;");
    }

    private static void lastTwoParts() {
        fine(2, "i = if ( b , 1 , 2 ) ; b = if ( b , b , 1 < 2 ) ;");
        inStart(5, "i = if ( b , 2 , @b ) ;");
        inStart(5, "b = if ( b , b , @1 ) ;");
        inStart(5, "i = if ( b , 2 , @b == b ) ;");
        inStart(5, "b = @if ( b , 1 , 2 ) ;");
        inStart(5, "i = @if ( b , b , b ) ;");
        inStart(5, "i = @if ( b , b , 1 ) + 1 ;");
        inStart(5, "b = @if ( b , 1 , b ) ;");
        inStart(5, "i = if ( b , if ( b , 1 , 2 ) , @if ( b , b , b ) ) ;");
    }

    private static void ownKind() {
        for (String one : INTS) {
            fine(2, "i = " + one + " ; n = " + one + " ;");
            inStart(5, "b = @" + one + " ;");
            inStart(5, "t = @" + one + " ;");
        }
        for (String one : BOOLS) {
            fine(2, "b = " + one + " ; t = " + one + " ;");
            inStart(5, "i = @" + one + " ;");
            inStart(5, "n = @" + one + " ;");
        }
    }

    private static void ways() {
        for (String way : "sum least most first all some".split(" ")) {
            boolean bool = way.equals("all") || way.equals("some");
            String head = "fold a : " + way + " ; global c : " + way + " ; start { } round { ";
            String own = bool ? "true" : "1";
            String other = bool ? "1" : "true";
            Desk.right(2, head + "send a " + own + " along ; give c " + own + " ; }");
            Desk.faulty(5, head + "send a @" + other + " along ; }");
            Desk.faulty(5, head + "send a @" + other + " against ; }");
            Desk.faulty(5, head + "give c @" + other + " ; }");
            Desk.right(2, head + "let x = a == " + own + " ; let y = c == " + own + " ; }");
            Desk.faulty(5, head + "let x = a == @" + other + " ; }");
            Desk.faulty(5, head + "let x = c == @" + other + " ; }");
            Desk.right(1, head + "let x = has a && true ; }");
            Desk.faulty(5, head + "let x = @has a + 1 ; }");
        }
    }

    /** Each sort as the first, and the only one, that is told. */
    private static void firstTold() {
        Desk.faulty(5, "global a : all ; start { give a @1 ; } round { }");
        Desk.faulty(5, "global a : sum ; start { give a @true ; } round { }");
        Desk.faulty(5, "global a : sum ; start { let x = @a && true ; } round { }");
        Desk.faulty(5, "fold a : all ; start { send a @1 along ; } round { }");
        Desk.faulty(5, "fold a : first ; start { send a @true along ; } round { }");
        Desk.faulty(5, "fold a : all ; start { let x = @has a + 1 ; } round { }");
        Desk.faulty(5, "node a : bool = true ; start { a = @1 ; } round { }");
        Desk.faulty(5, "node a : int = 1 ; start { a = @true ; } round { }");
        Desk.faulty(5, "start { let a = true ; a = @1 ; } round { }");
        Desk.faulty(5, "column a ; fold h : all ; start { send h @arc . a along ; } round { }");
    }

    private static void kindOfLets() {
        inStart(5, "let x = true ; i = @x ;");
        inStart(5, "let x = 1 < 2 ; x = @1 ;");
        inStart(5, "let x = f ; b = @x ;");
        inStart(5, "let x = k ; i = @x ;");
        inStart(5, "let x = 1 ; let y = x ; b = @y ;");
        inStart(5, "if b { let x = 1 ; } let x = true ; i = @x ;");
        fine(4, "if b { let x = 1 ; } let x = true ; b = x ;");
    }

    /** In every place where an exp can stand it may be one of any line of the grammar. */
    private static void everyLine() {
        for (String exp : new String[] {"b || b", "b && b", "1 < 2", "b == b", "! b", "b"}) {
            fine(8, "b = # ; let x = # ; send h # along ; send h # against ; give k # ; if # { } b = if ( # , # , # ) ; b = ( # ) ;"
                .replace("#", exp));
            inStart(5, "i = draw ( @" + exp + " ) ;");
        }
        for (String exp : new String[] {"1 + 2", "1 * 2", "- 1", "1"}) {
            fine(7, "i = # ; let x = # ; send f # along ; give g # ; i = if ( b , # , # ) ; i = ( # ) ; i = draw ( # ) ;"
                .replace("#", exp));
            inStart(5, "if @" + exp + " { }");
        }
    }

    private static void firstTokens() {
        inStart(5, "i = @( true ) ;");
        inStart(5, "i = @( ( true ) ) ;");
        inStart(5, "b = @( i ) + 1 ;");
        inStart(5, "b = @( ( i ) + 1 ) * 2 ;");
        inStart(5, "i = 1 + @( b ) ;");
        inStart(5, "i = - @( 1 < 2 ) ;");
        inStart(5, "i = 1 * 2 + @( 1 < 2 ) * 3 ;");
        inStart(5, "i = 1 + @( b && b ) - 2 ;");
        inStart(5, "b = i < @( b ) ;");
        inStart(5, "i = @has f ;");
        inStart(5, "send h @arc . w && b along ;");
        inStart(5, "i = @! ( b ) ;");
    }

    private static void anyKind() {
        inStart(4, "i = @q && b ;");
        inStart(4, "b = @q + 1 == 1 ;");
        inStart(4, "i = if ( @q , 1 , 2 ) ;");
        inStart(4, "b = @q == 1 ; i = q ;");
        inStart(4, "b = @q == b ;");
        inStart(4, "i = has @q ;");
        inStart(4, "b = arc . @w ;");
        inStart(4, "i = 1 + has @q ;");
        inStart(4, "b = b && arc . @w ;");
        inStart(4, "let y = @q ; b = y ; i = y ;");
        inStart(4, "send @q 1 along ; send f 1 along ;");
        inStart(4, "send @q true along ;");
        inStart(4, "give @q true ;");
        inStart(4, "@q = 1 + 1 ; q = true ;");
        inStart(4, "b = ( @q == 1 ) ;");
        inStart(4, "b = ( @q ) ;");
        inStart(4, "i = ( @q ) ;");
        inStart(4, "i = - ( has @q ) ;");
        // of another sort than can stand there: any KIND too
        inStart(4, "b = ( @w ) ;");
        inStart(4, "i = ( @w ) ;");
        inStart(4, "b = ( @w ) && b ;");
        inStart(4, "b = ! ( @w ) ;");
        inStart(4, "if ( @w ) { }");
        inStart(4, "i = ( has @g ) + 1 ;");
        inStart(4, "i = ( has @i ) + 1 ;");
        inStart(4, "b = ( has @g ) && b ;");
        inStart(4, "b = ! ( has @q ) ;");
        inStart(4, "b = ( arc . @w ) ;");
        inStart(4, "send h ( arc . @i ) along ;");
        inStart(4, "send h ( arc . @q ) along ;");
        inStart(4, "send f 1 + ( arc . @b ) along ;");
        inStart(5, "send h @( arc . w ) along ;");
        inStart(5, "b = @( has q ) + 1 ;");
        inStart(5, "b = @if ( b , 1 , q ) ;");
        inStart(4, "i = if ( b , 1 , @q ) ;");
        inStart(4, "i = if ( b , @q , 1 ) ;");
        inStart(4, "b = if ( b , @q , true ) ;");
        inStart(4, "i = if ( b , @q , y ) ;");
        inStart(5, "i = @if ( b , q , true ) ;");
        inStart(5, "b = @if ( b , arc . w , 1 ) ;");
        inStart(4, "b = if ( b , arc . @w , true ) ;");
        inStart(5, "i = @if ( b , if ( b , q , q ) , true ) ;");
    }
}
