/** Promise 5, FAULTS 3 and 4: NAMES that are told already, that are not there, or of another sort than can stand there. */
public final class Promise05NamesTest {
    private static final String[] TELLS = {"column # ; ", "node # : int = 1 ; ", "node # : bool = true ; ", "fold # : sum ; ",
        "global # : sum ; "};
    private static final String ALL = "column w ; node i : int = 1 ; node b : bool = true ; fold f : sum ; fold h : some ; "
        + "global g : least ; global k : all ; ";
    /** Of each sort one NAME, x a let and q none; the kinds all int, so that only the sort can be wrong. */
    private static final String[] SORTS = {"w", "i", "f", "g", "x", "q"};

    public static void main(String[] args) {
        Desk.held("5 FAULT 3: columns, states, folds, globals are one lot", Promise05NamesTest::oneLot);
        Desk.held("5 FAULT 3: lets are of that lot too", Promise05NamesTest::letsAreToo);
        Desk.held("5 FAULT 3: a let that can be seen, told again within its block", Promise05NamesTest::letTwice);
        Desk.held("5 FAULT 3: told again behind its block a let may be", Promise05NamesTest::behindItsBlock);
        Desk.held("5 FAULT 3: NAMES that differ by a letter, a digit, upper case", Promise05NamesTest::almostTheSame);
        Desk.held("5 FAULT 4: an exp: states, lets, folds, globals", () -> sorts("let y = @# + 1 ;", "i f g x"));
        Desk.held("5 FAULT 4: =: states, lets", () -> sorts("@# = 1 ;", "i x"));
        Desk.held("5 FAULT 4: arc: columns, in the exp of a send", () -> sorts("send f arc . @# along ;", "w"));
        Desk.held("5 FAULT 4: arc: nowhere but in the exp of a send", Promise05NamesTest::arcElsewhere);
        Desk.held("5 FAULT 4: has: folds", () -> sorts("let y = has @# ;", "f"));
        Desk.held("5 FAULT 4: send: folds", () -> sorts("send @# 1 along ;", "f"));
        Desk.held("5 FAULT 4: give: globals", () -> sorts("give @# 1 ;", "g"));
        Desk.held("5 a let can be seen behind its ;, not ahead of it", Promise05NamesTest::notAheadOfIt);
        Desk.held("5 a let can be seen to the end of its block, not behind it", Promise05NamesTest::notBehindItsBlock);
        Desk.held("5 a NAME told behind its use is not there", Promise05NamesTest::toldLater);
        Desk.close();
    }

    private static void inStart(int number, String marked) {
        Desk.faulty(number, ALL + "start { " + marked + " } round { }");
    }

    private static void fine(int statements, String text) {
        Desk.right(statements, ALL + "start { " + text + " } round { }");
    }

    private static void oneLot() {
        for (String first : TELLS) {
            Desk.right(0, first.replace("#", "a") + "start { } round { }");
            for (String second : TELLS) {
                Desk.faulty(3, first.replace("#", "a") + second.replace("#", "@a") + "start { } round { }");
                Desk.faulty(3, first.replace("#", "a") + "column b ; " + second.replace("#", "@a") + "start { } round { }");
                Desk.right(0, first.replace("#", "a") + second.replace("#", "b") + "start { } round { }");
            }
        }
        Desk.faulty(3, "column a ; column @a ; column a ; start { } round { }");
    }

    private static void letsAreToo() {
        for (String tell : TELLS) {
            Desk.faulty(3, tell.replace("#", "a") + "start { let @a = 1 ; } round { }");
            Desk.faulty(3, tell.replace("#", "a") + "start { } round { loop 1 { let @a = 1 ; } }");
            Desk.right(1, tell.replace("#", "a") + "start { let b = 1 ; } round { }");
        }
    }

    private static void letTwice() {
        inStart(3, "let x = 1 ; let @x = 2 ;");
        inStart(3, "let x = 1 ; if b { let @x = 2 ; }");
        inStart(3, "let x = 1 ; if b { } else { let @x = 2 ; }");
        inStart(3, "let x = 1 ; loop 2 { loop 2 { let @x = 2 ; } }");
        inStart(3, "let x = 1 ; if b { let y = 2 ; } let y = 3 ; loop 2 { let @y = 3 ; }");
        inStart(3, "loop 2 { let x = 1 ; loop 2 { } let @x = true ; }");
    }

    private static void behindItsBlock() {
        fine(4, "if b { let x = 1 ; } let x = true ; b = x ;");
        fine(7, "if b { let x = 1 ; i = x ; } else { let x = true ; b = x ; } loop 1 { let x = 2 ; }");
        fine(4, "loop 2 { let x = 1 ; } loop 2 { let x = true ; }");
        Desk.right(2, "start { let x = 1 ; } round { let x = true ; }");
    }

    private static void almostTheSame() {
        Desk.right(0, "column a ; column A ; column a0 ; column a1 ; node aa : int = 1 ; node abcdefghijkl : int = 1 ; "
            + "node abcdefghijkm : int = 1 ; node abcdefghijk : int = 1 ; start { } round { }");
        Desk.faulty(3, "column abcdefghijkl ; node @abcdefghijkl : int = 1 ; start { } round { }");
    }

    /** Of the six sorts of NAMES just these can stand in place of the #. */
    private static void sorts(String form, String fitting) {
        for (String name : SORTS) {
            String statement = form.replace("#", name);
            if ((" " + fitting + " ").contains(" " + name + " ")) {
                fine(2, "let x = 1 ; " + statement.replace("@", ""));
            } else {
                inStart(4, "let x = 1 ; " + statement);
            }
        }
    }

    private static void arcElsewhere() {
        for (String form : new String[] {"let y = arc . @# ;", "i = arc . @# ;", "give g arc . @# ;", "if arc . @# == 1 { }",
            "send f 1 along ; i = 1 + arc . @# ;", "i = draw ( - arc . @# ) ;", "send f arc . w along ; if arc . @# == 1 { }"}) {
            for (String name : SORTS) {
                inStart(4, "let x = 1 ; " + form.replace("#", name));
            }
        }
        fine(2, "send f arc . w * 2 + if ( arc . w > 1 , arc . w , - arc . w ) along ; send h arc . w == 1 against ;");
        fine(1, "send f draw ( ( arc . w ) ) along ;");
    }

    private static void notAheadOfIt() {
        inStart(4, "let x = @x ;");
        inStart(4, "let x = 1 + ( 2 * @x ) ;");
        inStart(4, "@x = 1 ; let x = 1 ;");
        inStart(4, "i = @x ; let x = 1 ;");
        inStart(4, "loop 2 { i = @x ; let x = 1 ; }");
        fine(2, "let x = 1 ; let y = x ;");
    }

    private static void notBehindItsBlock() {
        inStart(4, "if b { let x = 1 ; } i = @x ;");
        inStart(4, "if b { let x = 1 ; } @x = 1 ;");
        inStart(4, "if b { let x = 1 ; } else { i = @x ; }");
        inStart(4, "loop 2 { let x = 1 ; } i = @x ;");
        inStart(4, "loop 2 { loop 2 { let x = 1 ; } i = @x ; }");
        Desk.faulty(4, "start { let x = 1 ; } round { let y = @x ; }");
        fine(5, "let x = 1 ; if b { i = x ; loop 2 { x = x + 1 ; } }");
        fine(5, "let x = 1 ; if b { let y = 1 ; x = y ; } i = x ;");
    }

    private static void toldLater() {
        Desk.faulty(1, "start { a = 1 ; } @node a : int = 1 ; round { }");
        Desk.faulty(4, "start { @a = 1 ; } round { let a = 1 ; }");
    }
}
