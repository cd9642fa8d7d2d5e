/** Promise 5 (fault): the FAULTS 1 to 5, each at the place that a @ marks here, and which of several is told. */
public final class FaultTest {
    private static final String STATES = "node i : int = 1 ; node b : bool = true ; ";
    private static final String ALL = "column w ; " + STATES + "fold f : sum ; fold h : some ; global g : least ; "
        + "global k : all ; ";

    public static void main(String[] args) {
        wrongWhat();
        noTokens();
        otherTokens();
        tooMany();
        toldAlready();
        unknownNames();
        otherKinds();
        anyKinds();
        whichOne();
        lines();
        Desk.close();
    }

    /** The text with its @ taken out has this FAULT at the place of the @. */
    private static void due(int number, String marked) {
        int place = marked.indexOf('@');
        String text = marked.substring(0, place) + marked.substring(place + 1);
        Desk desk = new Desk();
        Desk.due("program() of " + text, desk.load(text), -10 - number);
        Desk.due("fault(0) of " + text, desk.x.fault(0), place);
        Desk.due("fault(1) of " + text, desk.x.fault(1), text.substring(0, place).split("\n", -1).length);
        Desk.due("print(-1) of " + text, desk.x.print(-1), Desk.BAD);
    }

    /** Statements of start, behind what ALL tells. */
    private static void inStart(int number, String marked) {
        due(number, ALL + "start { " + marked + " } round { }");
    }

    private static void fine(String statements) {
        String text = ALL + "start { " + statements + " } round { }";
        Desk desk = new Desk();
        desk.load(text);
        Desk.due("fault(0) of " + text, desk.x.fault(0), Desk.NONE);
        Desk.due("fault(1) of " + text, desk.x.fault(1), Desk.NONE);
        Desk.due("fault(2) of " + text, desk.x.fault(2), Desk.BAD);
    }

    private static void wrongWhat() {
        Desk desk = new Desk();
        Desk.due("fault(0) ahead of all", desk.x.fault(0), Desk.NONE);
        Desk.due("fault(1) ahead of all", desk.x.fault(1), Desk.NONE);
        desk.load("start { } round { } }");
        for (int what : new int[] {-1, 2, 3, Integer.MIN_VALUE, Integer.MAX_VALUE}) {
            Desk.due("fault(" + what + ")", desk.x.fault(what), Desk.BAD);
        }
        Desk.due("fault(0)", desk.x.fault(0), 20);
        desk.load("start { } round { }");
        Desk.due("fault(0) of the latest", desk.x.fault(0), Desk.NONE);
    }

    private static void noTokens() {
        due(1, "@\tstart { } round { }");
        due(1, "start@\r\n{ } round { }");
        due(1, "start { @$ } round { }");
        due(1, "start { } round { } @\u00e4");
        due(1, "start { } round { } @\u0000");
        due(1, "start { if true @& true { } } round { }");
        due(1, "start { if true @| true { } } round { }");
        due(1, "start { if true && @& true { } } round { }");
        due(1, "start { let @abcdefghijklm = 1 ; } round { }");
        due(1, "start { let a@_b = 1 ; } round { }");
        due(1, "start { let a = @2147483648 ; } round { }");
        due(1, "start { let a = @99999999999999999999999999 ; } round { }");
        due(1, "start { let a = 1@a ; } round { }");
        due(1, "node a : int = @2147483648 ; start { } round { }");
        due(1, "start { loop @2147483648 { } } round { }");
        due(1, "start { let a = 1 @'; } round { }");
    }

    private static void otherTokens() {
        due(1, "@");
        due(1, "  \n # only this\n@");
        due(1, "@round { } start { }");
        due(1, "start { } @");
        due(1, "start { } @start { }");
        due(1, "start { } @column a ; round { }");
        due(1, "start { } round { } @round { }");
        due(1, "start { } round { } @;");
        due(1, "start @( ) round { }");
        due(1, "column @int ; start { } round { }");
        due(1, "column @5 ; start { } round { }");
        due(1, "column a @, b ; start { } round { }");
        due(1, "node a @= 5 ; start { } round { }");
        due(1, "node a : @sum = 5 ; start { } round { }");
        due(1, "node a : int @; start { } round { }");
        due(1, "node a : int = @true ; start { } round { }");
        due(1, "node a : int = - @- 5 ; start { } round { }");
        due(1, "node a : int = 5 @+ 5 ; start { } round { }");
        due(1, "node a : bool = @1 ; start { } round { }");
        due(1, "node a : bool = @- true ; start { } round { }");
        due(1, "fold a : @int ; start { } round { }");
        due(1, "fold a : @start ; start { } round { }");
        due(1, "fold a : @let ; start { } round { }");
        due(1, "fold @sum : sum ; start { } round { }");
        due(1, "global @all : sum ; start { } round { }");
        due(1, "global g : @other ; start { } round { }");
        due(1, "start { @{ } } round { }");
        due(1, "start { @; } round { }");
        due(1, "start { @else { } } round { }");
        due(1, "start { halt @} round { }");
        due(1, "start { x @1 ; } round { }");
        due(1, "start { x @== 1 ; } round { }");
        due(1, "start { let @halt = 1 ; } round { }");
        due(1, "start { let a @; } round { }");
        due(1, "start { let a = @; } round { }");
        due(1, "start { let a = 1 @1 ; } round { }");
        due(1, "start { let a = 1 + @; } round { }");
        due(1, "start { let a = 1 + @* 1 ; } round { }");
        due(1, "start { let a = ( 1 @; } round { }");
        due(1, "start { let a = 1 @) ; } round { }");
        due(1, "start { let a = ( @) ; } round { }");
        due(1, "start { let a = 1 < 2 @< 3 ; } round { }");
        due(1, "start { let a = 1 == 2 @!= 3 ; } round { }");
        due(1, "start { let a = true || 1 < 2 @< 3 ; } round { }");
        due(1, "start { let a = true && 1 < 2 + 3 @== true || false ; } round { }");
        due(1, "start { let a = if ( true , 1 @) ; } round { }");
        due(1, "start { let a = if ( true @; 1 , 2 ) ; } round { }");
        due(1, "start { let a = if @true { } ; } round { }");
        due(1, "start { let a = draw @5 ; } round { }");
        due(1, "start { let a = draw ( @) ; } round { }");
        due(1, "start { let a = draw ( 1 @, 2 ) ; } round { }");
        due(1, "start { let a = arc @w ; } round { }");
        due(1, "start { let a = arc . @id ; } round { }");
        due(1, "start { let a = has @( f ) ; } round { }");
        due(1, "start { let a = @along ; } round { }");
        due(1, "start { let a = @let ; } round { }");
        due(1, "start { if true @halt ; } round { }");
        due(1, "start { if ( true @, true , true ) { } } round { }");
        due(1, "start { if true { } else @if true { } } round { }");
        due(1, "start { loop @id { } } round { }");
        due(1, "start { loop @- 1 { } } round { }");
        due(1, "start { loop @( 1 ) { } } round { }");
        due(1, "start { loop 1 @; } round { }");
        inStart(1, "send @1 along ;");
        inStart(1, "send f @along ;");
        inStart(1, "send f 1 @;");
        inStart(1, "give @least 1 ;");
        inStart(1, "give g 1 @along ;");
        inStart(1, "give g @= 1 ;");
        inStart(1, "f @( 1 ) ;");
    }

    private static String times(int n, String part) {
        return part.repeat(n);
    }

    private static void tooMany() {
        due(2, "column a ; column b ; column c ; column d ; column @e ; start { } round { }");
        due(2, "column a ; column b ; column c ; column d ; column @a ; start { } round { }");
        due(1, "column a ; column b ; column c ; column d ; column @; start { } round { }");
        due(2, times(8, "node x : int = 1 ; ").replaceFirst("x", "y") + "node @z : int = 1 ; start { } round { }");
        due(2, "fold a : sum ; fold b : sum ; fold c : sum ; fold d : sum ; fold @e : sum ; start { } round { }");
        due(2, "global a : sum ; global b : sum ; global c : sum ; global d : sum ; global @e : sum ; start { } round { }");
        String eight = "let a = 1 ; let b = 1 ; let c = 1 ; let d = 1 ; let e = 1 ; let f = 1 ; let g = 1 ; let h = 1 ; ";
        due(2, "start { " + eight + "let @i = 1 ; } round { }");
        due(2, "start { let x = 1 ; if true { " + eight.substring(12) + "let @i = 1 ; } } round { }");
        due(2, "start { " + times(120, "halt ; ") + "@halt ; } round { }");
        due(2, "start { " + times(100, "halt ; ") + "} round { " + times(20, "halt ; ") + "@x = 1 ; }");
        due(2, "start { " + times(119, "halt ; ") + "loop 1 { @loop 101 { } } } round { }");
        due(1, "start { " + times(120, "halt ; ") + "@; } round { }");
        due(2, "start { loop @101 { } } round { }");
        due(2, "start { loop @2147483647 { } } round { }");
        due(2, "start { let a = 0" + times(495, " + 1") + " ; } round { @} # one more than 1,000");
        due(2, "start { let a = 0" + times(497, " + 1") + " @+ 1 ; } round { }");
        due(2, "start { let a = 0" + times(497, " + 1") + " @; } round { }");
        due(1, "start { let a = 0" + times(497, " + 1") + " @1 ; } round { }");
        due(1, "start { let a = 0" + times(497, " + 1") + " @$ ; } round { }");
        due(1, "start { let a = 0" + times(497, " + 1") + "@");
        due(2, "start { let a = - 0" + times(496, " + 1") + " + @1 ; } round { }");
        due(1, "start { let a = - 0" + times(496, " + 1") + " + @+ ; } round { }");
        due(2, "start { " + times(12, "loop 1 { ") + "loop 1 @{ } " + times(12, "} ") + "} round { }");
        due(1, "start { " + times(12, "loop 1 { ") + "loop 1 @} " + times(12, "} ") + "} round { }");
        due(2, "start { " + times(11, "if true { ") + "let a = ( @1 ) ; " + times(11, "} ") + "} round { }");
        due(2, "start { " + times(11, "if true { ") + "let a = - @1 ; " + times(11, "} ") + "} round { }");
        due(2, "start { " + times(11, "if true { ") + "let a = draw ( @1 ) ; " + times(11, "} ") + "} round { }");
        due(2, "start { " + times(11, "if true { ") + "let a = if ( @true , 1 , 2 ) ; " + times(11, "} ") + "} round { }");
        for (String exp : "1 true false x arc.w has|f id turn nodes degree indegree draw(1) if(true,1,2) (1) -1 !true".split(" ")) {
            due(2, "start { " + times(11, "if true { ") + "let a = ( @" + exp.replace('|', ' ') + " ) ; " + times(11, "} ")
                + "} round { }");
        }
        due(2, "start { " + times(10, "if true { ") + "let a = if ( true , ( @1 ) , 2 ) ; " + times(10, "} ") + "} round { }");
        due(2, "start { " + times(10, "if true { ") + "let a = if ( true , 1 , - @2 ) ; " + times(10, "} ") + "} round { }");
        due(1, "start { " + times(11, "if true { ") + "let a = ( @) ; " + times(11, "} ") + "} round { }");
        due(1, "start { " + times(11, "if true { ") + "let a = - @; " + times(11, "} ") + "} round { }");
        due(2, "start { let a = " + times(12, "( ") + "@1 " + times(12, ") ") + "; } round { }");
        due(2, "start { let a = " + times(12, "- ") + "@- 1 ; } round { }");
        due(2, "start { let a = " + times(6, "( ! ") + "@true " + times(6, ") ") + "; } round { }");
        due(2, "start { let a = " + times(4, "( - draw ( ") + "@1 " + times(8, ") ") + "; } round { }");
    }

    private static void toldAlready() {
        due(3, "column a ; column @a ; start { } round { }");
        due(3, "column a ; node @a : int = 1 ; start { } round { }");
        due(3, "node a : int = 1 ; fold @a : sum ; start { } round { }");
        due(3, "fold a : sum ; global @a : sum ; start { } round { }");
        inStart(3, "let @w = 1 ;");
        inStart(3, "let @i = 1 ;");
        inStart(3, "let @f = 1 ;");
        inStart(3, "let @g = 1 ;");
        inStart(3, "let x = 1 ; let @x = 2 ;");
        inStart(3, "let x = 1 ; if b { let @x = 2 ; }");
        inStart(3, "let x = 1 ; if b { let y = 2 ; } let y = 3 ; loop 2 { let @y = 3 ; }");
        fine("if b { let x = 1 ; } let x = true ; b = x ;");
        fine("if b { let x = 1 ; i = x ; } else { let x = true ; b = x ; } loop 1 { let x = 2 ; }");
        due(3, "column a ; column @a ; start { let a = 1 ; } round { }");
    }

    private static void unknownNames() {
        inStart(4, "@x = 1 ;");
        inStart(4, "@w = 1 ;");
        inStart(4, "@f = 1 ;");
        inStart(4, "@g = 1 ;");
        inStart(4, "i = @x ;");
        inStart(4, "i = @w ;");
        inStart(4, "i = 1 + ( 2 * @I ) ;");
        inStart(4, "let x = @x ;");
        inStart(4, "if b { let x = 1 ; } i = @x ;");
        inStart(4, "if b { let x = 1 ; } else { i = @x ; }");
        inStart(4, "i = arc . @w ;");
        inStart(4, "let x = arc . @w ;");
        inStart(4, "give g arc . @w ;");
        inStart(4, "if arc . @w == 1 { }");
        inStart(4, "send f arc . @i along ;");
        inStart(4, "send f arc . @x along ;");
        inStart(4, "send f arc . w along ; i = arc . @w ;");
        inStart(4, "send @g 1 along ;");
        inStart(4, "send @i 1 along ;");
        inStart(4, "send @x 1 along ;");
        inStart(4, "give @f 1 ;");
        inStart(4, "give @x 1 ;");
        inStart(4, "b = has @g ;");
        inStart(4, "b = has @x ;");
        inStart(4, "b = has @b ;");
        fine("i = f + g ; b = h && k && has f && has h ; let x = i ; x = x + 1 ; i = x ;");
        fine("send f arc . w * 2 + if ( arc . w > 1 , arc . w , - arc . w ) along ; send h arc . w == 1 against ;");
        due(4, "start { let x = 1 ; } round { let y = @x ; }");
    }

    private static void otherKinds() {
        inStart(5, "i = @true ;");
        inStart(5, "i = @( true ) ;");
        inStart(5, "b = @1 ;");
        inStart(5, "b = @i + 1 ;");
        inStart(5, "b = @( i ) + 1 ;");
        inStart(5, "i = @i == 1 ;");
        inStart(5, "i = @has f ;");
        inStart(5, "b = @f ;");
        inStart(5, "i = @h ;");
        inStart(5, "i = @k ;");
        inStart(5, "let x = true ; i = @x ;");
        inStart(5, "let x = true ; x = @1 ;");
        inStart(5, "i = @b + 1 ;");
        inStart(5, "i = 1 + @b ;");
        inStart(5, "i = 1 + @( b ) ;");
        inStart(5, "i = 1 - @! b ;");
        inStart(5, "i = 2 * @b ;");
        inStart(5, "i = @b / 2 ;");
        inStart(5, "i = 2 % @b ;");
        inStart(5, "i = - @b ;");
        inStart(5, "i = - @( 1 < 2 ) ;");
        inStart(5, "b = ! @1 ;");
        inStart(5, "b = ! @- 1 ;");
        inStart(5, "b = @1 && b ;");
        inStart(5, "b = b && @1 ;");
        inStart(5, "b = b || @i + 1 ;");
        inStart(5, "b = b || b && @1 ;");
        inStart(5, "b = @b < b ;");
        inStart(5, "b = 1 < @b ;");
        inStart(5, "b = @true >= 1 ;");
        inStart(5, "b = 1 == @b ;");
        inStart(5, "b = b == @1 ;");
        inStart(5, "b = b != @i * 2 ;");
        inStart(5, "i = draw ( @b ) ;");
        inStart(5, "i = if ( @1 , 2 , 3 ) ;");
        inStart(5, "i = if ( b , 2 , @b ) ;");
        inStart(5, "i = @if ( b , b , 1 ) + 1 ;");
        inStart(5, "b = if ( b , b , @1 ) ;");
        inStart(5, "b = @if ( b , 1 , 2 ) ;");
        inStart(5, "if @1 { }");
        inStart(5, "if @( 1 ) + 1 { }");
        inStart(5, "if b { i = @b ; }");
        inStart(5, "send f @b along ;");
        inStart(5, "send h @arc . w along ;");
        inStart(5, "send h @arc . w && b along ;");
        inStart(5, "give g @b ;");
        inStart(5, "give k @id ;");
        due(5, "fold a : first ; start { } round { send a @true along ; }");
        due(5, "fold a : all ; start { } round { send a @1 along ; }");
        due(5, "global a : all ; start { } round { give a @1 ; }");
        due(5, "fold a : all ; node i : int = 1 ; start { i = @has a ; } round { }");
        due(5, "node i : int = 1 ; start { i = @true ; } round { }");
        due(5, "column w ; fold h : all ; start { send h @arc . w along ; } round { }");
        fine("b = b == ( b != false ) ;");
        fine("i = if ( b , 1 , 2 ) ; b = if ( b , b , 1 < 2 ) ; b = ( i < 1 ) == b ;");
    }

    private static void anyKinds() {
        inStart(4, "i = @x && b ;");
        inStart(4, "b = @x + 1 == 1 ;");
        inStart(4, "i = if ( @x , 1 , 2 ) ;");
        inStart(4, "b = @x == 1 ; i = x ;");
        inStart(4, "i = has @x ;");
        inStart(4, "b = arc . @w ;");
        inStart(4, "let y = @x ; b = y ; i = y ;");
        inStart(4, "send @x 1 along ; send f 1 along ;");
        inStart(4, "@x = 1 + 1 ; x = true ;");
        inStart(5, "b = @if ( b , 1 , x ) ;");
        inStart(4, "b = ( @x == 1 ) ;");
        // the kind of the third, where the second is any: a bool would have to be there, at the if
        due(5, "node i : int = 1 ; start { i = @if ( true , x , true ) ; } round { }");
        due(4, "node i : int = 1 ; start { i = if ( true , @x , 1 ) ; } round { }");
        due(4, "node i : int = 1 ; start { i = if ( true , @x , y ) ; } round { }");
    }

    private static void whichOne() {
        // 1 and 2 ahead of all others, wherever they stand; the first of them
        inStart(1, "x = true + 1 ; let i = 2 ; halt @}");
        inStart(2, "x = true + 1 ; let i = 2 ; loop @101 { } halt }");
        inStart(1, "halt @halt ; loop 101 { }");
        // of the others the least place, though the kind is found out later
        inStart(5, "b = @1 + x ;");
        inStart(4, "b = @x + true ;");
        inStart(5, "i = @true ; x = 1 ;");
        inStart(4, "@x = true + 1 ; i = true ;");
        inStart(3, "let @i = x ;");
        inStart(5, "send f @b && x along ;");
        inStart(5, "send f @( x + 1 ) == 1 along ;");
        // of one TOKEN the least number
        inStart(4, "b = @x + 1 ;");
        inStart(4, "i = @x && b ;");
        // 5 at the ( that stands ahead of the unknown NAME
        inStart(5, "b = @( x + 1 ) ;");
    }

    private static void lines() {
        due(1, "start\n{\n}\n@;");
        due(1, "\n\n\nstart { } # halt\n # halt \n@");
        due(4, "start { }\nround {\n  halt ;\n  if @x { }\n}\n");
        due(1, "\n@\t\n");
        Desk desk = new Desk();
        desk.load("start { }\n\n\nround { } round");
        Desk.due("fault(1)", desk.x.fault(1), 4);
        Desk.due("fault(0)", desk.x.fault(0), 22);
    }
}
