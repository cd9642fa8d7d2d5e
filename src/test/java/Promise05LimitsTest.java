/** Promise 5, FAULT 2: for each limit the last that is within it, and the first beyond it with its place. */
public final class Promise05LimitsTest {
    private static final String EMPTY = "start { } round { }";
    private static final String EIGHT = "let a = 1 ; let b = 1 ; let c = 1 ; let d = 1 ; let e = 1 ; let f = 1 ; let g = 1 ; "
        + "let h = 1 ; ";

    public static void main(String[] args) {
        Desk.held("5 FAULT 2: 4 columns, at the NAME", () -> told("column # ; ", 4));
        Desk.held("5 FAULT 2: 8 node states, at the NAME", Promise05LimitsTest::states);
        Desk.held("5 FAULT 2: 4 folds, at the NAME", () -> told("fold # : least ; ", 4));
        Desk.held("5 FAULT 2: 4 globals, at the NAME", () -> told("global # : some ; ", 4));
        Desk.held("5 FAULT 2: all of these at their limits at once", Promise05LimitsTest::allAtOnce);
        Desk.held("5 FAULT 2: 8 lets that can be seen, at the NAME", Promise05LimitsTest::lets);
        Desk.held("5 FAULT 2: lets that cannot be seen any more do not count", Promise05LimitsTest::letsGone);
        Desk.held("5 FAULT 2: 120 statements, at the first TOKEN", Promise05LimitsTest::statements);
        Desk.held("5 FAULT 2: blocks within 12 blocks", Promise05LimitsTest::blocks);
        Desk.held("5 FAULT 2: exps within 12 blocks", Promise05LimitsTest::expsInBlocks);
        Desk.held("5 FAULT 2: within 12 ( )", () -> nested("( ", " )", "1"));
        Desk.held("5 FAULT 2: within 12 draw ( )", () -> nested("draw ( ", " )", "1"));
        Desk.held("5 FAULT 2: within 12 if ( ), the first part", () -> nested("if ( ", " , true , true )", "true"));
        Desk.held("5 FAULT 2: within 12 if ( ), the second part", () -> laterPart("if ( true , ", " , 1 )"));
        Desk.held("5 FAULT 2: within 12 if ( ), the third part", () -> laterPart("if ( true , 1 , ", " )"));
        Desk.held("5 FAULT 2: behind 12 of -", () -> nested("- ", "", "1"));
        Desk.held("5 FAULT 2: behind 12 of !", () -> nested("! ", "", "true"));
        Desk.held("5 FAULT 2: within 12 of them all", Promise05LimitsTest::mixed);
        Desk.held("5 FAULT 2: within those alone that are around it", Promise05LimitsTest::oneBehindAnother);
        Desk.held("5 FAULT 2: each first TOKEN of an exp, a one", Promise05LimitsTest::firstTokens);
        Desk.held("5 FAULT 2: loop of more than 100, at the NUMBER", Promise05LimitsTest::loops);
        Desk.held("5 FAULT 2: of one TOKEN 1", Promise05LimitsTest::ofOneToken);
        Desk.held("5 FAULT 2: ahead of 3, 4, 5 of one TOKEN", Promise05LimitsTest::aheadOfOthers);
        Desk.close();
    }

    private static String some(String form, int n) {
        StringBuilder out = new StringBuilder();
        for (int i = 0; i < n; i++) {
            out.append(form.replace("#", "n" + i));
        }
        return out.toString();
    }

    private static void told(String form, int limit) {
        Desk.right(0, EMPTY);
        Desk.right(0, some(form, limit - 1) + EMPTY);
        Desk.right(0, some(form, limit) + EMPTY);
        Desk.faulty(2, some(form, limit) + form.replace("#", "@n" + limit) + EMPTY);
        Desk.faulty(2, some(form, limit) + form.replace("#", "@n0") + EMPTY);
        Desk.faulty(2, some(form, limit) + form.replace("#", "@m") + some(form, 1) + EMPTY);
        Desk.faulty(1, some(form, limit) + form.replace("#", "@start") + EMPTY);
        Desk.faulty(1, some(form, limit) + form.replace("#", "@7") + EMPTY);
    }

    private static void states() {
        told("node # : int = 1 ; ", 8);
        told("node # : bool = true ; ", 8);
        String four = some("node # : int = 1 ; ", 4);
        Desk.right(0, four + "node a : bool = true ; node b : bool = true ; node c : bool = true ; node d : bool = true ; " + EMPTY);
        Desk.faulty(2, four + "node a : bool = true ; node b : bool = true ; node c : bool = true ; node d : bool = true ; "
            + "node @e : bool = true ; " + EMPTY);
    }

    private static void allAtOnce() {
        String all = "column k ; column l ; column m ; column w ; " + some("node # : int = 1 ; ", 8)
            + "fold o : sum ; fold p : sum ; fold q : sum ; fold r : sum ; "
            + "global s : sum ; global t : sum ; global u : sum ; global v : sum ; ";
        Desk.right(16, all + "start { " + EIGHT + "} round { " + EIGHT + "}");
        Desk.faulty(2, all + "column @x ; " + EMPTY);
        Desk.faulty(2, all + "node @x : int = 1 ; " + EMPTY);
        Desk.faulty(2, all + "fold @x : sum ; " + EMPTY);
        Desk.faulty(2, all + "global @x : sum ; " + EMPTY);
        Desk.faulty(2, all + "start { " + EIGHT + "let @i = 1 ; } round { }");
    }

    private static void lets() {
        Desk.right(8, "start { " + EIGHT + "} round { }");
        Desk.faulty(2, "start { " + EIGHT + "let @i = 1 ; } round { }");
        Desk.faulty(2, "start { " + EIGHT + "let @a = 1 ; } round { }");
        Desk.faulty(2, "start { let x = 1 ; if true { " + EIGHT.substring(12) + "let @i = 1 ; } } round { }");
        Desk.faulty(2, "start { " + EIGHT + "if true { loop 1 { let @i = 1 ; } } } round { }");
        Desk.faulty(2, "start { " + EIGHT + "if true { } else { let @i = 1 ; } } round { }");
        Desk.faulty(2, "start { } round { " + EIGHT + "let @i = $ ; }");
        Desk.faulty(1, "start { " + EIGHT + "let @loop = 1 ; } round { }");
        Desk.faulty(1, "start { " + EIGHT + "let @1 = 1 ; } round { }");
    }

    private static void letsGone() {
        Desk.right(16, "start { " + EIGHT + "} round { " + EIGHT + "}");
        Desk.right(18, "start { if true { " + EIGHT + "} loop 1 { " + EIGHT + "} } round { }");
        Desk.right(17, "start { if true { " + EIGHT + "} else { " + EIGHT + "} } round { }");
        Desk.right(17, "start { loop 1 { " + EIGHT + "} " + EIGHT + "} round { }");
        Desk.right(19, "start { let a = 1 ; let b = 1 ; let c = 1 ; let d = 1 ; " + Desk.times(3, "if true { let e = 1 ; "
            + "let f = 1 ; let g = 1 ; let h = 1 ; } ") + "} round { }");
        Desk.faulty(2, "start { if true { " + EIGHT + "} " + EIGHT + "let @i = 1 ; } round { }");
    }

    private static void statements() {
        for (String one : new String[] {"halt ;", "x = 1 ;", "let x = 1 ;", "send f 1 along ;", "give g 1 ;", "if true { }",
            "loop 101 { }"}) {
            Desk.faulty(2, "start { " + Desk.times(120, "halt ; ") + "@" + one + " } round { }");
            Desk.faulty(2, "start { " + Desk.times(120, "halt ; ") + "} round { @" + one + " }");
            Desk.faulty(2, "start { " + Desk.times(119, "halt ; ") + "if true { @" + one + " } } round { }");
        }
        Desk.right(120, "start { " + Desk.times(119, "halt ; ") + "if true { } } round { }");
        Desk.faulty(2, "start { " + Desk.times(100, "halt ; ") + "} round { " + Desk.times(20, "halt ; ") + "@halt ; }");
        Desk.faulty(1, "start { " + Desk.times(120, "halt ; ") + "@; } round { }");
        Desk.faulty(1, "start { " + Desk.times(120, "halt ; ") + "@else { } } round { }");
        Desk.faulty(1, "start { " + Desk.times(120, "halt ; ") + "} round { @round }");
    }

    private static void blocks() {
        for (String open : new String[] {"loop 1 { ", "if true { ", "if true { } else { "}) {
            Desk.right(12, "start { " + Desk.times(12, open) + Desk.times(12, "} ") + "} round { }");
        }
        for (String open : new String[] {"loop 1 @{ ", "if true @{ ", "if true { } else @{ "}) {
            String within = open.replace("@", "");
            // a condition is an exp: within thirteen blocks it comes first
            String thirteenth = within.startsWith("if") ? within.replace("if true", "if @true") : open;
            Desk.right(13, "start { " + Desk.times(12, within) + "halt ; " + Desk.times(12, "} ") + "} round { }");
            Desk.faulty(2, "start { " + Desk.times(12, within) + thirteenth + "} " + Desk.times(12, "} ") + "} round { }");
            Desk.faulty(2, "start { } round { " + Desk.times(12, within) + thirteenth + "} " + Desk.times(12, "} ") + "}");
        }
    }

    private static void expsInBlocks() {
        for (String statement : new String[] {"v = @1 ;", "let x = @1 ;", "send f @1 along ;", "give g @1 ;", "if @true { }"}) {
            String fine = statement.replace("@", "");
            String head = "node v : int = 0 ; fold f : sum ; global g : sum ; start { ";
            if (!statement.startsWith("if")) {
                Desk.right(12, head + Desk.times(11, "loop 1 { ") + fine + " " + Desk.times(11, "} ") + "} round { }");
            }
            Desk.faulty(2, head + Desk.times(12, "loop 1 { ") + statement + " " + Desk.times(12, "} ") + "} round { }");
        }
        // the block of an if within eleven loops is within twelve
        Desk.right(12, "start { " + Desk.times(11, "loop 1 { ") + "if true { } " + Desk.times(11, "} ") + "} round { }");
    }

    /** An exp within start's block and so many of these: 11 are within the limit, 12 beyond it. */
    private static void nested(String open, String close, String inner) {
        Desk.right(1, "start { let a = " + Desk.times(11, open) + inner + Desk.times(11, close) + " ; } round { }");
        Desk.right(1, "start { } round { let a = " + Desk.times(11, open) + inner + Desk.times(11, close) + " ; }");
        Desk.faulty(2, "start { let a = " + Desk.times(12, open) + "@" + inner + Desk.times(12, close) + " ; } round { }");
        Desk.faulty(2, "start { } round { let a = " + Desk.times(12, open) + "@" + inner + Desk.times(12, close) + " ; }");
        for (int blocks = 0; blocks <= 11; blocks++) {
            int left = 11 - blocks;
            String head = "start { " + Desk.times(blocks, "loop 1 { ") + "let a = ";
            String tail = " ; " + Desk.times(blocks, "} ") + "} round { }";
            Desk.right(blocks + 1, head + Desk.times(left, open) + inner + Desk.times(left, close) + tail);
            Desk.faulty(2, head + Desk.times(left + 1, open) + "@" + inner + Desk.times(left + 1, close) + tail);
        }
    }

    /** The first part of a twelfth if ( ) would be beyond the limit already: so the twelfth here is a -. */
    private static void laterPart(String open, String close) {
        for (int blocks = 0; blocks <= 10; blocks++) {
            int ifs = 11 - blocks;
            String head = "start { " + Desk.times(blocks, "loop 1 { ") + "let a = " + Desk.times(ifs, open);
            String tail = Desk.times(ifs, close) + " ; " + Desk.times(blocks, "} ") + "} round { }";
            Desk.right(blocks + 1, head + "1" + tail);
            Desk.faulty(2, head + "- @1" + tail);
            Desk.faulty(2, head + "( @1 )" + tail);
        }
        Desk.faulty(2, "start { let a = " + Desk.times(11, open) + "if ( @true , 1 , 1 )" + Desk.times(11, close) + " ; } round { }");
    }

    private static void mixed() {
        Desk.right(1, "start { let a = " + Desk.times(5, "( ! ") + "( true )" + Desk.times(5, " )") + " ; } round { }");
        Desk.faulty(2, "start { let a = " + Desk.times(6, "( ! ") + "@true " + Desk.times(6, ") ") + "; } round { }");
        Desk.faulty(2, "start { let a = " + Desk.times(4, "( - draw ( ") + "@1 " + Desk.times(8, ") ") + "; } round { }");
        Desk.faulty(2, "start { if true { let a = " + Desk.times(3, "( - draw ( ") + "( if ( @true , 1 , 2 ) ) "
            + Desk.times(6, ") ") + "; } } round { }");
        Desk.faulty(2, "start { let a = if ( true , if ( true , 1 , " + Desk.times(9, "- ") + "( @1 ) ) , 2 ) ; } round { }");
        Desk.faulty(2, "start { let a = 1 + 2 * ( 3 + 4 * " + Desk.times(10, "- ") + "- @1 ) ; } round { }");
        Desk.right(1, "start { let a = 1 + 2 * ( 3 + 4 * " + Desk.times(10, "- ") + "1 ) ; } round { }");
    }

    private static void oneBehindAnother() {
        String deep = Desk.times(11, "( ") + "1" + Desk.times(11, " )");
        Desk.right(1, "start { let a = " + deep + " + " + deep + " * " + deep + " ; } round { }");
        Desk.right(2, "start { let a = " + deep + " ; let b = " + deep + " ; } round { }");
        Desk.right(2, "start { let a = " + deep + " ; } round { let b = " + deep + " ; }");
        Desk.right(24, "start { " + Desk.times(2, Desk.times(12, "loop 1 { ") + Desk.times(12, "} ")) + "} round { }");
        Desk.right(1, "start { let a = " + Desk.times(11, "- ") + "1 - " + Desk.times(11, "- ") + "1 ; } round { }");
        Desk.right(1, "start { let a = 1" + Desk.times(60, " + ( 1 )") + Desk.times(60, " - - 1") + " ; } round { }");
    }

    private static void firstTokens() {
        for (String exp : "1 true false x arc.w has|f id turn nodes degree indegree draw(1) if(true,1,2) (1) -1 !true".split(" ")) {
            String text = exp.replace('|', ' ');
            Desk.faulty(2, "start { let a = " + Desk.times(12, "( ") + "@" + text + Desk.times(12, " )") + " ; } round { }");
            Desk.faulty(2, "start { let a = " + Desk.times(12, "- ") + "@" + text + " ; } round { }");
            Desk.faulty(2, "start { " + Desk.times(12, "loop 1 { ") + "let a = @" + text + " ; " + Desk.times(12, "} ") + "} round { }");
        }
    }

    private static void loops() {
        for (int n : new int[] {0, 1, 99, 100}) {
            Desk.right(1, "start { loop " + n + " { } } round { }");
            Desk.right(1, "start { } round { loop " + n + " { } }");
        }
        for (String n : "101 102 128 255 256 1000 2147483647".split(" ")) {
            Desk.faulty(2, "start { loop @" + n + " { } } round { }");
            Desk.faulty(2, "start { } round { loop @" + n + " { } }");
        }
        Desk.faulty(2, "start { loop @101 ; } round { }");
        Desk.faulty(1, "start { loop 100 @; } round { }");
    }

    private static void ofOneToken() {
        Desk.faulty(1, "start { let a = " + Desk.times(12, "( ") + "@) ; } round { }");
        Desk.faulty(1, "start { let a = " + Desk.times(12, "- ") + "@; } round { }");
        Desk.faulty(1, "start { let a = " + Desk.times(12, "- ") + "@+ 1 ; } round { }");
        Desk.faulty(1, "start { let a = " + Desk.times(12, "( ") + "@abcdefghijklm ; } round { }");
        Desk.faulty(1, "start { let a = " + Desk.times(12, "( ") + "@2147483648 ; } round { }");
        Desk.faulty(1, "start { let a = " + Desk.times(12, "( ") + "@");
        Desk.faulty(1, "start { " + Desk.times(12, "loop 1 { ") + "loop 1 @} " + Desk.times(12, "} ") + "} round { }");
        Desk.faulty(1, "start { " + Desk.times(12, "loop 1 { ") + "if @{ } " + Desk.times(12, "} ") + "} round { }");
        Desk.faulty(1, "start { loop @2147483648 { } } round { }");
        Desk.faulty(1, "start { loop @x { } } round { }");
    }

    private static void aheadOfOthers() {
        Desk.faulty(2, some("column # ; ", 4) + "column @n0 ; " + EMPTY);
        Desk.faulty(2, "start { " + EIGHT + "let @a = 1 ; } round { }");
        Desk.faulty(2, "start { " + Desk.times(120, "halt ; ") + "@x = 1 ; } round { }");
        Desk.faulty(2, "start { let a = " + Desk.times(12, "- ") + "@x ; } round { }");
        Desk.faulty(2, "start { let a = " + Desk.times(12, "- ") + "@true ; } round { }");
    }
}
