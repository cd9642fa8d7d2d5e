/** Promise 6: the TOKENS with a blank between two, ( ) of exps only where they are needed. */
public final class Promise06PrintTest {
    private static final String TOLD = "node i : int = 1 ; node b : bool = true ; fold f : sum ; ";

    public static void main(String[] args) {
        Desk.held("6 print: byte i, - 1 how many", Promise06PrintTest::bytes);
        Desk.held("6 print: BAD: none such", Promise06PrintTest::noneSuch);
        Desk.held("6 print: BAD: no program", Promise06PrintTest::noProgram);
        Desk.held("6 print: the latest program, whatever is done with it", Promise06PrintTest::latest);
        Desk.held("6 print: one program behind another, with nothing of those before", Promise06PrintTest::oneBehindAnother);
        Desk.held("6 PRINTED: TOKENS as they are written there, a blank between two", Promise06PrintTest::layout);
        Desk.held("6 PRINTED: ( ) around ints where they are needed, and nowhere else", Promise06PrintTest::ints);
        Desk.held("6 PRINTED: ( ) around bools where they are needed, and nowhere else", Promise06PrintTest::bools);
        Desk.held("6 PRINTED: ( ) around a right operand of the same line", Promise06PrintTest::sameLine);
        Desk.held("6 PRINTED: ( ) around an operand of a line further out", Promise06PrintTest::furtherOut);
        Desk.held("6 PRINTED: ( ) that are part of draw and if stay", Promise06PrintTest::drawAndIf);
        Desk.held("6 PRINTED: exps of all statements", Promise06PrintTest::otherPlaces);
        Desk.held("6 PRINTED: eleven ( ) around one another", Promise06PrintTest::deepest);
        Desk.held("6 PRINTED: what is printed is printed the same again", Promise06PrintTest::twice);
        Desk.held("6 PRINTED: the shortest, and the longest that there is", Promise06PrintTest::shortestAndLongest);
        Desk.close();
    }

    private static void bytes() {
        Desk desk = Desk.with("start{}round{}");
        String want = "start { } round { }";
        Desk.due("print(-1)", desk.x.print(-1), want.length());
        for (int i = 0; i < want.length(); i++) {
            Desk.due("print(" + i + ")", desk.x.print(i), (int) want.charAt(i));
        }
        Desk.due("print(-1) again", desk.x.print(-1), want.length());
    }

    private static void noneSuch() {
        Desk desk = Desk.with("start{}round{}");
        for (int i : new int[] {-2, -3, 19, 20, 3999, 4000, 4999, 5000, Desk.GREATEST, Desk.LEAST, Desk.LEAST + 1}) {
            Desk.due("print(" + i + ")", desk.x.print(i), Desk.BAD);
        }
        Desk.due("print(18), the last", desk.x.print(18), (int) '}');
        Desk.due("print(0), the first", desk.x.print(0), (int) 's');
        // a shorter one behind a longer one
        desk.load("column abc ; start { } round { }");
        desk.load("start { } round { }");
        Desk.due("print(18) of the shorter one", desk.x.print(18), (int) '}');
        Desk.due("print(19) of the shorter one", desk.x.print(19), Desk.BAD);
    }

    private static void noProgram() {
        Desk desk = new Desk();
        Desk.due("no program: print(-1)", desk.x.print(-1), Desk.BAD);
        Desk.due("no program: print(0)", desk.x.print(0), Desk.BAD);
        desk.feed("start{}round{}");
        Desk.due("only on the tape: print(-1)", desk.x.print(-1), Desk.BAD);
        for (String wrong : new String[] {"start{}round{", "start{loop 101{}}round{}", "start{a=1;}round{}", ""}) {
            desk.load("start{}round{}");
            desk.load(wrong);
            Desk.due("a wrong program: print(-1)", desk.x.print(-1), Desk.BAD);
            Desk.due("a wrong program: print(0)", desk.x.print(0), Desk.BAD);
            Desk.due("a wrong program: print(-2)", desk.x.print(-2), Desk.BAD);
        }
    }

    private static void latest() {
        Desk desk = Desk.with("start{}round{}");
        desk.load("column a;start{}round{}");
        Desk.due("another program", desk.printed(), "column a ; start { } round { }");
        desk.feed("start{halt;}round{}");
        desk.x.nodes(4);
        desk.x.begin(1);
        desk.x.run(2);
        Desk.due("behind other calls", desk.printed(), "column a ; start { } round { }");
        desk.x.end(3);
        desk.x.name();
        Desk.due("behind name()", desk.printed(), "column a ; start { } round { }");
    }

    /** ( ) that one program does not print must not take away what stands at their places in the next. */
    private static void oneBehindAnother() {
        Desk desk = Desk.with("start{let a=((((1))));}round{}");
        Desk.due("the first", desk.printed(), "start { let a = 1 ; } round { }");
        desk.load("start{let a=1+1+1+1+1;}round{}");
        Desk.due("the second", desk.printed(), "start { let a = 1 + 1 + 1 + 1 + 1 ; } round { }");
        desk.load("start{let a=((1+");
        desk.load("start{let a=(2-1)*1;}round{}");
        Desk.due("the one behind a wrong one", desk.printed(), "start { let a = ( 2 - 1 ) * 1 ; } round { }");
        desk.load("start{}round{let a=(2*1)-1;}");
        Desk.due("the last", desk.printed(), "start { } round { let a = 2 * 1 - 1 ; }");
    }

    private static void due(String text, String want) {
        Desk.due("printed " + text, Desk.with(text).printed(), want);
    }

    private static void layout() {
        due("\n# ahead\nstart{\n}# within\n   round  {}#", "start { } round { }");
        due("node a:int=-007;node B:bool=false;start{a=00;}round{}",
            "node a : int = - 007 ; node B : bool = false ; start { a = 00 ; } round { }");
        due("column w;fold f:least;global g:some;start{send f arc.w along;give g has f;}round{send f 1 against;}",
            "column w ; fold f : least ; global g : some ; start { send f arc . w along ; give g has f ; } "
            + "round { send f 1 against ; }");
        due("start{if true{}else{}loop 3{halt;}}round{let x=draw(5);x=if(x<=1,x,-x);}",
            "start { if true { } else { } loop 3 { halt ; } } round { let x = draw ( 5 ) ; x = if ( x <= 1 , x , - x ) ; }");
        due("node abcdefghijkl:int=-0;start{abcdefghijkl=0002147483647;}round{loop 000{}}",
            "node abcdefghijkl : int = - 0 ; start { abcdefghijkl = 0002147483647 ; } round { loop 000 { } }");
    }

    /** The exp of an assignment, printed. */
    private static void exp(String kind, String exp, String want) {
        Desk desk = new Desk();
        desk.load(TOLD + "start { " + kind + " = " + exp + " ; } round { }");
        Desk.due("printed " + exp, desk.printed(), TOLD + "start { " + kind + " = " + want + " ; } round { }");
    }

    private static void ints() {
        exp("i", "(1)", "1");
        exp("i", "((((i))))", "i");
        exp("i", "(1+2)", "1 + 2");
        exp("i", "(1+2)+3", "1 + 2 + 3");
        exp("i", "1+(2+3)", "1 + ( 2 + 3 )");
        exp("i", "1+((2+3))", "1 + ( 2 + 3 )");
        exp("i", "((1+2))+(((3)))", "1 + 2 + 3");
        exp("i", "1-(2-3)", "1 - ( 2 - 3 )");
        exp("i", "(1-2)-3", "1 - 2 - 3");
        exp("i", "1+(2-3)", "1 + ( 2 - 3 )");
        exp("i", "1+(2*3)", "1 + 2 * 3");
        exp("i", "(1+2)*3", "( 1 + 2 ) * 3");
        exp("i", "1*(2+3)", "1 * ( 2 + 3 )");
        exp("i", "1*(2*3)", "1 * ( 2 * 3 )");
        exp("i", "1*(2/3)%4", "1 * ( 2 / 3 ) % 4");
        exp("i", "(1*2)/3", "1 * 2 / 3");
        exp("i", "(1*2)+(3*4)", "1 * 2 + 3 * 4");
        exp("i", "-(1)", "- 1");
        exp("i", "-(-1)", "- - 1");
        exp("i", "-(1+2)", "- ( 1 + 2 )");
        exp("i", "-(1*2)", "- ( 1 * 2 )");
        exp("i", "(-1)*2", "- 1 * 2");
        exp("i", "(-1)*(-2)", "- 1 * - 2");
        exp("i", "1-(-2)", "1 - - 2");
        exp("i", "(-(1+2))+3", "- ( 1 + 2 ) + 3");
        exp("i", "-(draw(5))", "- draw ( 5 )");
        exp("i", "draw((5))", "draw ( 5 )");
        exp("i", "draw((1+2))*2", "draw ( 1 + 2 ) * 2");
        exp("i", "if((b),(1),(2))", "if ( b , 1 , 2 )");
        exp("i", "(if(b,(1+2),2))*(3)", "if ( b , 1 + 2 , 2 ) * 3");
        exp("i", "((1+2)*(3-4))", "( 1 + 2 ) * ( 3 - 4 )");
        exp("i", "(((1+2))*((3-4)))-((5))", "( 1 + 2 ) * ( 3 - 4 ) - 5");
    }

    private static void bools() {
        exp("b", "(b||b)||b", "b || b || b");
        exp("b", "b||(b||b)", "b || ( b || b )");
        exp("b", "(b&&b)&&b", "b && b && b");
        exp("b", "b&&(b&&b)", "b && ( b && b )");
        exp("b", "(b&&b)||(b&&b)", "b && b || b && b");
        exp("b", "(b||b)&&(b||b)", "( b || b ) && ( b || b )");
        exp("b", "!(b)", "! b");
        exp("b", "!(!b)", "! ! b");
        exp("b", "!(b&&b)", "! ( b && b )");
        exp("b", "!(1==2)", "! ( 1 == 2 )");
        exp("b", "(!b)==b", "! b == b");
        exp("b", "(b==b)==b", "( b == b ) == b");
        exp("b", "b==(b==b)", "b == ( b == b )");
        exp("b", "(1<2)==(2<1)", "( 1 < 2 ) == ( 2 < 1 )");
        exp("b", "(1+2)<(3*4)", "1 + 2 < 3 * 4");
        exp("b", "(1<2)&&(3>=4)", "1 < 2 && 3 >= 4");
        exp("b", "(b&&b)!=b", "( b && b ) != b");
        exp("b", "b!=(b||b)", "b != ( b || b )");
        exp("b", "(has f)&&(has f)", "has f && has f");
        exp("b", "!(has f)", "! has f");
        exp("b", "if((b||b),(b&&b),(!b))", "if ( b || b , b && b , ! b )");
    }

    private static void otherPlaces() {
        due(TOLD + "column w ; start { if (b) { } if (b&&(b)) { } else { } let x = (1) ; send f (arc.w) along ; "
            + "send f -(arc.w)+(1) against ; loop 2 { x = ((x)) ; } } round { if (b) == (b) { } }",
            TOLD + "column w ; start { if b { } if b && b { } else { } let x = 1 ; send f arc . w along ; "
            + "send f - arc . w + 1 against ; loop 2 { x = x ; } } round { if b == b { } }");
    }

    private static void twice() {
        Desk desk = new Desk();
        desk.load(TOLD + "start{i=(1+(2-(3*(4)))-((5)));b=((i)<(2))&&(!(b)||(b==(1<2)));}round{}");
        String once = desk.printed();
        Desk again = new Desk();
        again.load(once);
        Desk.due("printed twice", again.printed(), once);
    }

    /** Each line of the grammar: from the left no ( ), around what stands to the right there are some. */
    private static void sameLine() {
        for (String first : "+ -".split(" ")) {
            for (String second : "+ -".split(" ")) {
                exp("i", "(1" + first + "2)" + second + "3", "1 " + first + " 2 " + second + " 3");
                exp("i", "1" + first + "(2" + second + "3)", "1 " + first + " ( 2 " + second + " 3 )");
            }
        }
        for (String first : "* / %".split(" ")) {
            for (String second : "* / %".split(" ")) {
                exp("i", "(1" + first + "2)" + second + "3", "1 " + first + " 2 " + second + " 3");
                exp("i", "1" + first + "(2" + second + "3)", "1 " + first + " ( 2 " + second + " 3 )");
            }
        }
        for (String sign : "&& ||".split(" ")) {
            exp("b", "(b" + sign + "b)" + sign + "b", "b " + sign + " b " + sign + " b");
            exp("b", "b" + sign + "(b" + sign + "b)", "b " + sign + " ( b " + sign + " b )");
        }
        // comparing is no chain: ( ) on both sides
        for (String sign : "== !=".split(" ")) {
            exp("b", "(1<2)" + sign + "(3>=4)", "( 1 < 2 ) " + sign + " ( 3 >= 4 )");
            exp("b", "(b" + sign + "b)" + sign + "b", "( b " + sign + " b ) " + sign + " b");
            exp("b", "b" + sign + "(b" + sign + "b)", "b " + sign + " ( b " + sign + " b )");
        }
    }

    private static void furtherOut() {
        for (String outer : "* / %".split(" ")) {
            for (String inner : "+ -".split(" ")) {
                exp("i", "(1" + inner + "2)" + outer + "3", "( 1 " + inner + " 2 ) " + outer + " 3");
                exp("i", "1" + outer + "(2" + inner + "3)", "1 " + outer + " ( 2 " + inner + " 3 )");
                exp("i", "(1" + outer + "2)" + inner + "3", "1 " + outer + " 2 " + inner + " 3");
                exp("i", "1" + inner + "(2" + outer + "3)", "1 " + inner + " 2 " + outer + " 3");
            }
        }
        for (String test : "< <= > >= == !=".split(" ")) {
            exp("b", "(1+2)" + test + "(3-4)", "1 + 2 " + test + " 3 - 4");
            exp("b", "b&&(1" + test + "2)||(3" + test + "4)", "b && 1 " + test + " 2 || 3 " + test + " 4");
            exp("b", "!(1" + test + "2)", "! ( 1 " + test + " 2 )");
        }
        exp("b", "(b||b)&&b", "( b || b ) && b");
        exp("b", "b&&(b||b)", "b && ( b || b )");
        exp("b", "(b&&b)||b", "b && b || b");
        exp("b", "b||(b&&b)", "b || b && b");
        exp("b", "(b||b)==(b&&b)", "( b || b ) == ( b && b )");
        exp("i", "-(1+2)", "- ( 1 + 2 )");
        exp("i", "-(1%2)", "- ( 1 % 2 )");
        exp("i", "(-1)%(-2)", "- 1 % - 2");
        exp("b", "!(b||b)", "! ( b || b )");
    }

    private static void drawAndIf() {
        exp("i", "draw(1)", "draw ( 1 )");
        exp("i", "draw((1))", "draw ( 1 )");
        exp("i", "(draw(((1+2))))", "draw ( 1 + 2 )");
        exp("i", "draw(draw(2))", "draw ( draw ( 2 ) )");
        exp("i", "if(b,1,2)", "if ( b , 1 , 2 )");
        exp("i", "if((b),((1)),(2))", "if ( b , 1 , 2 )");
        exp("i", "(if((b||b),(1+2),(-2)))*2", "if ( b || b , 1 + 2 , - 2 ) * 2");
        exp("i", "-(if(b,1,2))", "- if ( b , 1 , 2 )");
        exp("b", "!(if(b,b,b))", "! if ( b , b , b )");
    }

    private static void deepest() {
        exp("i", Desk.times(11, "(") + "1" + Desk.times(11, ")"), "1");
        exp("i", "1+" + Desk.times(11, "(") + "1" + Desk.times(11, ")"), "1 + 1");
        exp("i", Desk.times(11, "1-(") + "1-1" + Desk.times(11, ")"), Desk.times(11, "1 - ( ") + "1 - 1" + Desk.times(11, " )"));
        exp("i", Desk.times(10, "1-(") + "1-(1)" + Desk.times(10, ")"), Desk.times(10, "1 - ( ") + "1 - 1" + Desk.times(10, " )"));
        exp("i", Desk.times(11, "(") + "1" + Desk.times(11, "+1)"), "1" + Desk.times(11, " + 1"));
        exp("i", Desk.times(5, "-(") + "-1" + Desk.times(5, ")"), Desk.times(6, "- ") + "1");
    }

    private static void shortestAndLongest() {
        Desk desk = Desk.with("start{}round{}");
        Desk.due("print(-1) of the shortest", desk.x.print(-1), 19);
        // 4,000 bytes with 1,000 TOKENS, a blank only where there has to be one
        StringBuilder text = new StringBuilder("start{let abcdefghi=-0000000000");
        for (int i = 0; i < 494; i++) {
            text.append("+000007");
        }
        text.append(";}round{}");
        text.insert(text.indexOf("-") + 1, "0".repeat(4000 - text.length()));
        desk = new Desk();
        Desk.due("program() of " + text.length() + " bytes", desk.load(text.toString()), 1);
        Desk.due("print(-1) of it", desk.x.print(-1), 4998);
        Desk.due("the last byte", desk.x.print(4997), (int) '}');
        Desk.due("behind it", desk.x.print(4998), Desk.BAD);
        Desk.due("the one ahead of it", desk.x.print(4996), (int) ' ');
        // the bytes 3,999 to 4,001: beyond what a text itself can have
        String want = text.toString().replace("{", " { ").replace("}", " }").replace(";", " ;").replace("=", " = ")
            .replace("+", " + ").replace("-", "- ").replace("{  }", "{ }").replace("}round", "} round");
        Desk.due("as many by hand", want.length(), 4998);
        for (int i : new int[] {0, 1, 50, 3998, 3999, 4000, 4001, 4500}) {
            Desk.due("print(" + i + ")", desk.x.print(i), (int) want.charAt(i));
        }
    }
}
