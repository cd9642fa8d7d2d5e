/** Promise 6 (print): the TOKENS with a blank between two, ( ) of exps only where they are needed. */
public final class PrintTest {
    private static final String TOLD = "node i : int = 1 ; node b : bool = true ; fold f : sum ; ";

    public static void main(String[] args) {
        bytes();
        layout();
        ints();
        bools();
        otherPlaces();
        twice();
        longest();
        Desk.close();
    }

    private static void bytes() {
        Desk desk = new Desk();
        Desk.due("no program: print(-1)", desk.x.print(-1), Desk.BAD);
        desk.load("start{}round{}");
        String want = "start { } round { }";
        Desk.due("print(-1)", desk.x.print(-1), want.length());
        for (int i = 0; i < want.length(); i++) {
            Desk.due("print(" + i + ")", desk.x.print(i), (int) want.charAt(i));
        }
        for (int i : new int[] {-2, want.length(), want.length() + 1, 4999, 5000, Integer.MAX_VALUE, Integer.MIN_VALUE}) {
            Desk.due("print(" + i + ")", desk.x.print(i), Desk.BAD);
        }
        desk.load("start{}round{");
        Desk.due("a wrong program: print(-1)", desk.x.print(-1), Desk.BAD);
        Desk.due("a wrong program: print(0)", desk.x.print(0), Desk.BAD);
        desk.load("column a;start{}round{}");
        Desk.due("another program", desk.printed(), "column a ; start { } round { }");
        desk.x.nodes(4);
        desk.x.begin(1);
        desk.x.run(2);
        Desk.due("behind a RUN", desk.printed(), "column a ; start { } round { }");
    }

    private static void due(String text, String want) {
        Desk desk = new Desk();
        desk.load(text);
        Desk.due("printed " + text, desk.printed(), want);
    }

    private static void layout() {
        due("\n# ahead\nstart{\n}# within\n   round  {}#", "start { } round { }");
        due("node a:int=-007;node B:bool=false;start{a=00;}round{}",
            "node a : int = - 007 ; node B : bool = false ; start { a = 00 ; } round { }");
        due("column w;fold f:least;global g:some;start{send f arc.w along;give g has f;}round{send f 1 against;}",
            "column w ; fold f : least ; global g : some ; start { send f arc . w along ; give g has f ; } "
            + "round { send f 1 against ; }");
        due("start{if true{}else{}loop 3{halt;}}round{let x=draw(5);x=if(x<=1,x,-x);}",
            "start { if true { } else { } loop 3 { halt ; } } round { let x = draw ( 5 ) ; x = if ( x <= 1 , x , - x ) ; }");
    }

    /** The exp of an assignment, printed. */
    private static void exp(String kind, String exp, String want) {
        Desk desk = new Desk();
        desk.load(TOLD + "start { " + kind + " = " + exp + " ; } round { }");
        Desk.due("printed " + exp, desk.printed(), TOLD + "start { " + kind + " = " + want + " ; } round { }");
    }

    private static void ints() {
        exp("i", "(1)", "1");
        exp("i", "((((i))))", "i");
        exp("i", "(1+2)", "1 + 2");
        exp("i", "(1+2)+3", "1 + 2 + 3");
        exp("i", "1+(2+3)", "1 + ( 2 + 3 )");
        exp("i", "1+((2+3))", "1 + ( 2 + 3 )");
        exp("i", "((1+2))+(((3)))", "1 + 2 + 3");
        exp("i", "1-(2-3)", "1 - ( 2 - 3 )");
        exp("i", "(1-2)-3", "1 - 2 - 3");
        exp("i", "1+(2-3)", "1 + ( 2 - 3 )");
        exp("i", "1+(2*3)", "1 + 2 * 3");
        exp("i", "(1+2)*3", "( 1 + 2 ) * 3");
        exp("i", "1*(2+3)", "1 * ( 2 + 3 )");
        exp("i", "1*(2*3)", "1 * ( 2 * 3 )");
        exp("i", "1*(2/3)%4", "1 * ( 2 / 3 ) % 4");
        exp("i", "(1*2)/3", "1 * 2 / 3");
        exp("i", "(1*2)+(3*4)", "1 * 2 + 3 * 4");
        exp("i", "-(1)", "- 1");
        exp("i", "-(-1)", "- - 1");
        exp("i", "-(1+2)", "- ( 1 + 2 )");
        exp("i", "-(1*2)", "- ( 1 * 2 )");
        exp("i", "(-1)*2", "- 1 * 2");
        exp("i", "(-1)*(-2)", "- 1 * - 2");
        exp("i", "1-(-2)", "1 - - 2");
        exp("i", "(-(1+2))+3", "- ( 1 + 2 ) + 3");
        exp("i", "-(draw(5))", "- draw ( 5 )");
        exp("i", "draw((5))", "draw ( 5 )");
        exp("i", "draw((1+2))*2", "draw ( 1 + 2 ) * 2");
        exp("i", "if((b),(1),(2))", "if ( b , 1 , 2 )");
        exp("i", "(if(b,(1+2),2))*(3)", "if ( b , 1 + 2 , 2 ) * 3");
        exp("i", "((1+2)*(3-4))", "( 1 + 2 ) * ( 3 - 4 )");
        exp("i", "(((1+2))*((3-4)))-((5))", "( 1 + 2 ) * ( 3 - 4 ) - 5");
    }

    private static void bools() {
        exp("b", "(b||b)||b", "b || b || b");
        exp("b", "b||(b||b)", "b || ( b || b )");
        exp("b", "(b&&b)&&b", "b && b && b");
        exp("b", "b&&(b&&b)", "b && ( b && b )");
        exp("b", "(b&&b)||(b&&b)", "b && b || b && b");
        exp("b", "(b||b)&&(b||b)", "( b || b ) && ( b || b )");
        exp("b", "!(b)", "! b");
        exp("b", "!(!b)", "! ! b");
        exp("b", "!(b&&b)", "! ( b && b )");
        exp("b", "!(1==2)", "! ( 1 == 2 )");
        exp("b", "(!b)==b", "! b == b");
        exp("b", "(b==b)==b", "( b == b ) == b");
        exp("b", "b==(b==b)", "b == ( b == b )");
        exp("b", "(1<2)==(2<1)", "( 1 < 2 ) == ( 2 < 1 )");
        exp("b", "(1+2)<(3*4)", "1 + 2 < 3 * 4");
        exp("b", "(1<2)&&(3>=4)", "1 < 2 && 3 >= 4");
        exp("b", "(b&&b)!=b", "( b && b ) != b");
        exp("b", "b!=(b||b)", "b != ( b || b )");
        exp("b", "(has f)&&(has f)", "has f && has f");
        exp("b", "!(has f)", "! has f");
        exp("b", "if((b||b),(b&&b),(!b))", "if ( b || b , b && b , ! b )");
    }

    private static void otherPlaces() {
        due(TOLD + "column w ; start { if (b) { } if (b&&(b)) { } else { } let x = (1) ; send f (arc.w) along ; "
            + "send f -(arc.w)+(1) against ; loop 2 { x = ((x)) ; } } round { if (b) == (b) { } }",
            TOLD + "column w ; start { if b { } if b && b { } else { } let x = 1 ; send f arc . w along ; "
            + "send f - arc . w + 1 against ; loop 2 { x = x ; } } round { if b == b { } }");
    }

    private static void twice() {
        Desk desk = new Desk();
        desk.load(TOLD + "start{i=(1+(2-(3*(4)))-((5)));b=((i)<(2))&&(!(b)||(b==(1<2)));}round{}");
        String once = desk.printed();
        Desk again = new Desk();
        again.load(once);
        Desk.due("printed twice", again.printed(), once);
    }

    /** 4,000 bytes with 1,000 TOKENS, a blank only where there has to be one. */
    private static void longest() {
        StringBuilder text = new StringBuilder("start{let abcdefghi=-0000000000");
        for (int i = 0; i < 494; i++) {
            text.append("+000007");
        }
        text.append(";}round{}");
        text.insert(text.indexOf("-") + 1, "0".repeat(4000 - text.length()));
        Desk desk = new Desk();
        Desk.due("program() of " + text.length() + " bytes", desk.load(text.toString()), 1);
        Desk.due("print(-1) of it", desk.x.print(-1), 4998);
        Desk.due("the last byte", desk.x.print(4997), (int) '}');
        Desk.due("behind it", desk.x.print(4998), Desk.BAD);
        Desk.due("the one ahead of it", desk.x.print(4996), (int) ' ');
    }
}
