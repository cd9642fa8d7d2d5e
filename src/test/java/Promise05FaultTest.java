/** Promise 5: the place and the line of the latest program's FAULT; FAULT 1, and which of several FAULTS is told. */
public final class Promise05FaultTest {
    private static final String ALL = "column w ; node i : int = 1 ; node b : bool = true ; fold f : sum ; fold h : some ; "
        + "global g : least ; global k : all ; ";

    public static void main(String[] args) {
        Desk.held("5 fault: NONE where there is none", Promise05FaultTest::none);
        Desk.held("5 fault: BAD: another what", Promise05FaultTest::anotherWhat);
        Desk.held("5 fault: of the latest program()", Promise05FaultTest::ofTheLatest);
        Desk.held("5 fault: the place: the first byte is 0", Promise05FaultTest::places);
        Desk.held("5 fault: the line, from 1 on", Promise05FaultTest::lines);
        Desk.held("5 fault: where the text ends too soon, its end", Promise05FaultTest::endsTooSoon);
        Desk.held("5 FAULT 1: another TOKEN than can stand there, ahead of and between blocks", Promise05FaultTest::wrongHead);
        Desk.held("5 FAULT 1: another TOKEN than can stand there, in statements", Promise05FaultTest::wrongInStatements);
        Desk.held("5 FAULT 1: another TOKEN than can stand there, in exps", Promise05FaultTest::wrongInExps);
        Desk.held("5 FAULTS: the first that reading meets of 1, 2", Promise05FaultTest::firstOfOneAndTwo);
        Desk.held("5 FAULTS: 1, 2 ahead of others, wherever they stand", Promise05FaultTest::aheadOfOthers);
        Desk.held("5 FAULTS: of others the one with the least place", Promise05FaultTest::leastPlace);
        Desk.held("5 FAULTS: of one TOKEN the least number", Promise05FaultTest::leastNumber);
        Desk.close();
    }

    /** Statements of start, behind what ALL tells. */
    private static void inStart(int number, String marked) {
        Desk.faulty(number, ALL + "start { " + marked + " } round { }");
    }

    private static void none() {
        Desk desk = new Desk();
        Desk.due("fault(0) ahead of all", desk.x.fault(0), Desk.NONE);
        Desk.due("fault(1) ahead of all", desk.x.fault(1), Desk.NONE);
        desk.load("start { } round { }");
        Desk.due("fault(0) of a right one", desk.x.fault(0), Desk.NONE);
        Desk.due("fault(1) of a right one", desk.x.fault(1), Desk.NONE);
    }

    private static void anotherWhat() {
        for (String text : new String[] {null, "start { } round { }", "start { } round { } }"}) {
            Desk desk = new Desk();
            if (text != null) {
                desk.load(text);
            }
            for (int what : new int[] {-1, 2, 3, Desk.LEAST, Desk.GREATEST}) {
                Desk.due("fault(" + what + ") of " + text, desk.x.fault(what), Desk.BAD);
            }
        }
    }

    private static void ofTheLatest() {
        Desk desk = Desk.with("start { } round { } }");
        Desk.due("fault(0)", desk.x.fault(0), 20);
        Desk.due("fault(0) again", desk.x.fault(0), 20);
        desk.feed("start { } round { }");
        Desk.due("fault(0) with another text on the tape", desk.x.fault(0), 20);
        desk.x.nodes(3);
        desk.x.begin(1);
        Desk.due("fault(0) behind other calls", desk.x.fault(0), 20);
        desk.x.program();
        Desk.due("fault(0) of a right one", desk.x.fault(0), Desk.NONE);
        desk.load("start { }\nround { x = 1 ; }");
        Desk.due("fault(0) of FAULT 4", desk.x.fault(0), 18);
        Desk.due("fault(1) of FAULT 4", desk.x.fault(1), 2);
        desk.x.program();
        Desk.due("fault(0) of no text", desk.x.fault(0), 0);
        Desk.due("fault(1) of no text", desk.x.fault(1), 1);
    }

    private static void places() {
        Desk.faulty(1, "@;");
        Desk.faulty(1, " @;");
        Desk.faulty(1, "start { } round { }@;");
        Desk.faulty(1, "#\u00ff\n@;");
        Desk.faulty(1, " ".repeat(3999) + "@;");
        Desk.faulty(1, "\n".repeat(3999) + "@;");
        Desk.faulty(1, "start { } round { } @;" + " ".repeat(3979));
        Desk.faulty(4, "start { } " + " ".repeat(3970) + "round{@x=1;}");
        Desk.faulty(2, "start { } round { loop" + " ".repeat(3900) + "@101 { } }");
    }

    private static void lines() {
        Desk.faulty(1, "start\n{\n}\n@;");
        Desk.faulty(1, "\n\n\nstart { } # halt\n # halt \n@");
        Desk.faulty(4, "start { }\nround {\n  halt ;\n  if @x { }\n}\n");
        Desk.faulty(1, "\n@\t\n");
        Desk.faulty(1, "@;\n\n");
        Desk.faulty(1, "\n@\r");
        Desk.faulty(5, "\n\n#\n#\nstart { if\n@1\n{ } } round { }");
        Desk.faulty(3, "column a ; column\n@a ; start { } round { }");
    }

    private static void endsTooSoon() {
        String[] parts = {"", "column", "column a", "column a ;", "node a", "node a :", "node a : int", "node a : int =",
            "node a : int = -", "node a : int = 5", "node a : bool =", "fold a :", "fold a : sum", "start", "start {", "start { }",
            "start { } round", "start { } round {", "start { x", "start { x =", "start { x = 1", "start { let", "start { let x",
            "start { send", "start { send f", "start { send f 1", "start { send f 1 along", "start { give", "start { give g",
            "start { give g 1", "start { if", "start { if true", "start { if true {", "start { if true { } else", "start { loop",
            "start { loop 1", "start { halt", "start { x = (", "start { x = ( 1", "start { x = -", "start { x = 1 +", "start { x = arc",
            "start { x = arc .", "start { x = has", "start { x = draw", "start { x = draw (", "start { x = draw ( 1",
            "start { x = if", "start { x = if (", "start { x = if ( true", "start { x = if ( true ,", "start { x = if ( true , 1",
            "start { x = if ( true , 1 ,", "start { x = if ( true , 1 , 2"};
        for (String part : parts) {
            Desk.faulty(1, part + "@");
            Desk.faulty(1, part + " \n @");
            Desk.faulty(1, part + " # to the end@");
        }
    }

    private static void wrongHead() {
        for (String text : new String[] {"@round { } start { }", "start { } @start { }", "start { } @column a ; round { }",
            "start { } round { } @round { }", "start { } round { } @;", "start { } round { } @column a ;", "start @( ) round { }",
            "@x ; start { } round { }", "@halt ; start { } round { }", "column @int ; start { } round { }",
            "column @5 ; start { } round { }", "column a @, b ; start { } round { }", "column a @: sum ; start { } round { }",
            "node a @= 5 ; start { } round { }", "node a : @sum = 5 ; start { } round { }", "node a : int @; start { } round { }",
            "node a : int = @true ; start { } round { }", "node a : int = - @- 5 ; start { } round { }",
            "node a : int = @( 5 ) ; start { } round { }", "node a : int = 5 @+ 5 ; start { } round { }",
            "node a : bool = @1 ; start { } round { }", "node a : bool = @- true ; start { } round { }",
            "node a : bool = @! true ; start { } round { }", "node a : bool = true @&& true ; start { } round { }",
            "fold a : @int ; start { } round { }", "fold a : @start ; start { } round { }", "fold a : @let ; start { } round { }",
            "fold a : @global ; start { } round { }", "fold a : sum @= 1 ; start { } round { }",
            "fold @sum : sum ; start { } round { }", "global @all : sum ; start { } round { }",
            "global g : @other ; start { } round { }", "global g @; start { } round { }"}) {
            Desk.faulty(1, text);
        }
        for (String way : "sum least most first all some".split(" ")) {
            Desk.right(0, "fold a : " + way + " ; global b : " + way + " ; start { } round { }");
        }
    }

    private static void wrongInStatements() {
        for (String text : new String[] {"@{ }", "@;", "@else { }", "halt @}", "halt @halt ;", "i @1 ;", "i @== 1 ;", "i @: int = 1 ;",
            "@5 = 5 ;", "@( i ) = 5 ;", "@node x : int = 1 ;", "@round { }", "let @halt = 1 ;", "let x @;", "let x @: int = 1 ;",
            "let x = 1 @}", "let x = 1 @, y = 2 ;", "send @1 along ;", "send f @along ;", "send f 1 @;", "send f 1 @round ;",
            "send f 1 along @against ;", "send @has 1 along ;", "give @least 1 ;", "give g 1 @along ;", "give g @= 1 ;", "f @( 1 ) ;",
            "if true @halt ;", "if @{ }", "if true { } @;", "if ( true @, true , true ) { }", "if true { } else @if true { }",
            "if true { } else { } @else { }", "loop @id { }", "loop @- 1 { }", "loop @( 1 ) { }", "loop 1 @; ", "loop @{ }",
            "loop 1 @+ 1 { }", "loop 1 { } @else { }"}) {
            inStart(1, text);
        }
    }

    private static void wrongInExps() {
        for (String exp : new String[] {"@;", "1 @1", "1 + @; 1", "1 + @* 1", "( 1 @; ", "1 @)", "( @)", "1 < 2 @< 3", "1 == 2 @!= 3",
            "true || 1 < 2 @< 3", "true && 1 < 2 + 3 @== true || false", "1 < 2 @== true",
            "if ( true , 1 @)", "if ( true @; 1 , 2 )", "if ( true , 1 , 2 @, 3 )", "if @true { }", "draw @5", "draw ( @)",
            "draw ( 1 @, 2 )", "arc @w", "arc . @id", "arc . @5", "arc @; w", "has @( f )", "has @1", "@along", "@let", "@sum", "@int",
            "id @( 1 )", "@. w", "i @. w", "@* 1", "1 @! 1", "- @* 1", "! @&& true", "1 @. 5", "true @true", "@= 1"}) {
            inStart(1, "let x = " + exp + " ;");
        }
    }

    private static void firstOfOneAndTwo() {
        inStart(1, "halt @halt ; loop 101 { }");
        inStart(2, "loop @101 { } halt halt ;");
        inStart(2, "loop @101 { $ }");
        inStart(1, "@$ loop 101 { }");
        Desk.faulty(2, "column a ; column b ; column c ; column d ; column @e : start");
        Desk.faulty(1, "column a ; column b ; column c ; column d @: column e ; start");
        Desk.faulty(1, "start { } round { } @x $");
    }

    private static void aheadOfOthers() {
        inStart(1, "x = true + 1 ; let i = 2 ; halt @}");
        inStart(2, "x = true + 1 ; let i = 2 ; loop @101 { }");
        inStart(2, "i = true ; loop @101 { } halt }");
        Desk.faulty(1, "column a ; column a ; start { x = 1 ; if 1 { } } round { } @}");
        Desk.faulty(1, "start { x = 1 ; } round { @");
    }

    private static void leastPlace() {
        inStart(5, "b = @1 + x ;");
        inStart(4, "b = @x + true ;");
        inStart(5, "i = @true ; x = 1 ;");
        inStart(4, "@x = true + 1 ; i = true ;");
        inStart(3, "let @i = x ;");
        inStart(3, "let @i = 1 && 2 ;");
        inStart(4, "let x = @y ; let x = 1 ;");
        inStart(5, "send f @b && x along ;");
        inStart(5, "send f @( x + 1 ) == 1 along ;");
        inStart(5, "b = @( x + 1 ) ;");
        inStart(5, "b = @- x ;");
        inStart(5, "i = @i + 1 == 2 && b || x ;");
        inStart(5, "i = if ( @1 , 2 , true ) ;");
        inStart(5, "i = @if ( b , true , 2 ) ;");
        Desk.faulty(3, "column a ; node @a : int = 1 ; start { a = x ; } round { }");
    }

    private static void leastNumber() {
        inStart(4, "b = @x + 1 ;");
        inStart(4, "i = @x && b ;");
        inStart(4, "i = @x == 1 ;");
        inStart(4, "send f @x == 1 along ;");
        inStart(4, "if @x + 1 { }");
    }
}
