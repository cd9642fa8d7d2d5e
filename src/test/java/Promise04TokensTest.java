/** Promise 4, on what it rests: TOKENS, what stands between them, and how many there may be. */
public final class Promise04TokensTest {
    private static final int[] AROUND_LETTERS = {'@', '[', '`', '{', '_', 0xC1, 0xDA, 0xE1, 0xFA, 0x80, 0xFF};

    public static void main(String[] args) {
        Desk.held("4 TOKENS: a NAME: a letter, then letters, digits", Promise04TokensTest::namesOfOneByte);
        Desk.held("4 TOKENS: the bytes next to letters and digits are none", Promise04TokensTest::nextToLetters);
        Desk.held("4 TOKENS: a NAME: 12 at most", Promise04TokensTest::twelveAtMost);
        Desk.held("4 TOKENS: a NUMBER: 0 .. 2,147,483,647", Promise04TokensTest::numbers);
        Desk.held("4 TOKENS: a NUMBER may have zeros ahead, however many", Promise04TokensTest::zerosAhead);
        Desk.held("4 TOKENS: digits, then letters: two TOKENS", Promise04TokensTest::digitsThenLetters);
        Desk.held("4 TOKENS: the signs, with nothing between them", Promise04TokensTest::signs);
        Desk.held("4 TOKENS: the longest sign that is there", Promise04TokensTest::longestSign);
        Desk.held("4 TOKENS: half of && and of || is none", Promise04TokensTest::halves);
        Desk.held("4 TOKENS: between them 32, 10, and no other byte", Promise04TokensTest::between);
        Desk.held("4 TOKENS: from a # on all up to the next 10 is passed over", Promise04TokensTest::passedOver);
        Desk.held("4 TOKENS: words in quotes are RESERVED", Promise04TokensTest::reserved);
        Desk.held("4 TOKENS: 1,000 at most", Promise04TokensTest::thousand);
        Desk.close();
    }

    private static boolean isLetter(int b) {
        return b >= 'a' && b <= 'z' || b >= 'A' && b <= 'Z';
    }

    /** Every byte there is as a NAME, alone and behind a letter. */
    private static void namesOfOneByte() {
        for (int b = 0; b < 256; b++) {
            String text = "start{let " + (char) b + "=1;}round{}";
            String behind = "start{let q" + (char) b + "=1;}round{}";
            Desk desk = new Desk();
            Desk.due("byte " + b + " as a NAME", desk.load(text), isLetter(b) ? 1 : -11);
            boolean blank = b == 32 || b == 10;
            if (!isLetter(b)) {
                Desk.due("its place", desk.x.fault(0), b == '#' ? text.length() : blank ? 11 : 10);
            }
            boolean fits = isLetter(b) || b >= '0' && b <= '9' || blank;
            Desk.due("byte " + b + " behind a letter", desk.load(behind), fits ? 1 : -11);
        }
    }

    private static void nextToLetters() {
        for (int b : AROUND_LETTERS) {
            Desk.faulty(1, "start{let @" + (char) b + "=1;}round{}");
            Desk.faulty(1, "start{let a@" + (char) b + "=1;}round{}");
        }
        Desk.faulty(1, "start{let a=1/@;}round{}");
        Desk.faulty(1, "start{let a=1@:;}round{}");
        Desk.right(1, "start{let a=0+9;}round{}");
        Desk.right(1, "start{let aAzZ09=1;}round{}");
    }

    private static void twelveAtMost() {
        Desk.right(1, "start { let a = 1 ; } round { }");
        Desk.right(2, "start { let abcdefghijkl = 1 ; let a = abcdefghijkl ; } round { }");
        Desk.right(1, "start { let a12345678901 = 1 ; } round { }");
        Desk.faulty(1, "start { let @abcdefghijklm = 1 ; } round { }");
        Desk.faulty(1, "start { let @a123456789012 = 1 ; } round { }");
        Desk.faulty(1, "start { let a = @abcdefghijklm ; } round { }");
        Desk.faulty(1, "start { @abcdefghijklm = 1 ; } round { }");
        Desk.faulty(1, "column @abcdefghijklm ; start { } round { }");
        Desk.faulty(1, "@startstartstart { } round { }");
        Desk.faulty(1, "start { let @" + "z".repeat(3900) + " = 1 ; } round { }");
        // twelve of thirteen are the same: another NAME
        Desk.right(2, "start { let abcdefghijkl = 1 ; let abcdefghijk = 1 ; } round { }");
        Desk.right(2, "start { let abcdefghijkl = 1 ; let abcdefghijkL = 1 ; } round { }");
    }

    private static void number(String digits, int want) {
        Desk desk = Desk.begun("node v : int = " + digits + " ; node w : int = 5 ; start { w = " + digits + " ; } round { }", 1);
        Desk.due(digits + " as a state is told", desk.x.state(0, 0), want);
        desk.x.run(1);
        Desk.due(digits + " in an exp", desk.x.state(0, 1), want);
    }

    private static void numbers() {
        number("0", 0);
        number("1", 1);
        number("2147483646", 2147483646);
        number("2147483647", 2147483647);
        for (String beyond : new String[] {"2147483648", "2147483649", "2147483650", "3000000000", "4294967295", "4294967296",
            "4294967297", "9223372036854775807", "9223372036854775808", "18446744073709551616", "18446744073709551617",
            "9".repeat(3900)}) {
            Desk.faulty(1, "start { let a = @" + beyond + " ; } round { }");
            Desk.faulty(1, "node a : int = @" + beyond + " ; start { } round { }");
            Desk.faulty(1, "node a : int = - @" + beyond + " ; start { } round { }");
            Desk.faulty(1, "start { loop @" + beyond + " { } } round { }");
        }
    }

    private static void zerosAhead() {
        number("00", 0);
        number("007", 7);
        number("00000000002147483647", 2147483647);
        number("0".repeat(1800) + "12", 12);
        Desk.faulty(1, "start { let a = @00000000002147483648 ; } round { }");
        Desk.right(1, "start { loop 0000000000000100 { } } round { }");
        Desk.faulty(2, "start { loop @0000000000000101 { } } round { }");
    }

    private static void digitsThenLetters() {
        Desk.faulty(1, "start { let @1a = 1 ; } round { }");
        Desk.faulty(1, "start { let a = 1@a ; } round { }");
        Desk.faulty(1, "start { let a = 0@x10 ; } round { }");
        Desk.right(1, "fold f : sum ; start { send f 1along ; } round { }");
        Desk.right(1, "start { loop 3{ } } round { }");
    }

    private static void signs() {
        Desk.right(3, "node a:int=-1;start{a=(1+2)-3*4/5%6;if a<1&&a>2||a<=3&&!(a>=4)||a==5&&a!=6{}a=if(true,1,2);}round{}");
        Desk.right(1, "column w;fold f:sum;start{send f arc.w against;}round{}");
    }

    private static void longestSign() {
        Desk.right(1, "start{let a=1==1;}round{}");
        Desk.right(1, "start{let a=1!=1;}round{}");
        Desk.right(1, "start{let a=1<=1;}round{}");
        Desk.right(1, "start{let a=1>=1;}round{}");
        Desk.right(1, "start{let a=!!true;}round{}");
        Desk.right(1, "start{let a=1--1;}round{}");
        Desk.faulty(1, "start{let a@==1;}round{}");
        Desk.faulty(1, "start{let a=1@= =1;}round{}");
        Desk.faulty(1, "start{let a=1==@=1;}round{}");
        Desk.faulty(1, "start{let a=1< @=1;}round{}");
        Desk.faulty(1, "start{let a=1<=@=1;}round{}");
        Desk.faulty(1, "start{let a=1>@<1;}round{}");
        Desk.faulty(1, "start{let a=1!=@=1;}round{}");
        Desk.faulty(1, "start{let a=1@! =1;}round{}");
        Desk.faulty(1, "start{let a=true&&@&&true;}round{}");
        Desk.faulty(1, "start{let a=1@=>1;}round{}");
        Desk.right(1, "start{let a=true!=!false;}round{}");
        Desk.right(1, "start{let a=true==!!false;}round{}");
    }

    private static void halves() {
        Desk.faulty(1, "start { let a = true @& true ; } round { }");
        Desk.faulty(1, "start { let a = true @& & true ; } round { }");
        Desk.faulty(1, "start { let a = true && @& true ; } round { }");
        Desk.faulty(1, "start { let a = true @| true ; } round { }");
        Desk.faulty(1, "start { let a = true @| | true ; } round { }");
        Desk.faulty(1, "start { let a = true @&| true ; } round { }");
        Desk.faulty(1, "start { } round { } @&");
        Desk.faulty(1, "start { } round { } @|");
    }

    private static void between() {
        Desk.right(1, "start{let a=1;}round{}");
        Desk.right(1, " \n start \n\n { let\na   = 1\n; } round\n{ }\n\n ");
        for (int b = 0; b < 32; b++) {
            if (b != 10) {
                Desk.faulty(1, "start@" + (char) b + "{ } round { }");
                Desk.faulty(1, "start { } round { }@" + (char) b);
            }
        }
        Desk.faulty(1, "start@\u007f{ } round { }");
        Desk.faulty(1, "start@\u00a0{ } round { }");
        Desk.faulty(1, "@startround");
        Desk.faulty(1, "start { } @rou nd { }");
        Desk.faulty(1, "start { let a = 1 @1 ; } round { }");
    }

    private static void passedOver() {
        Desk.right(0, "# nothing\nstart # { ; \n{ } # more \u00ff\u0000\t\r\n round { }# to the end");
        Desk.right(0, "start{}round{}#");
        Desk.right(0, "start{}round{}#\n");
        Desk.right(0, "start{}round{}####\n##\n#");
        Desk.right(0, "#\nstart{}round{}");
        Desk.right(1, "start{let a=1#2;}\n;}round{}");
        Desk.faulty(1, "#start{}round{}@");
        Desk.faulty(1, "start{}#round{}\n@");
        Desk.faulty(1, "start{}#\rround{}@");
        Desk.faulty(1, "start{}round{}#\n@;#\n");
        // a # ends a TOKEN as a blank does
        Desk.right(1, "start{let#\na=1;}round{}");
        Desk.faulty(1, "start{let ab#\n@cd=1;}round{}");
        // what is passed over is no TOKEN: neither too long nor too many
        Desk.right(0, "# abcdefghijklmnop 99999999999 $ " + "; ".repeat(1500) + "\nstart { } round { }");
    }

    private static void reserved() {
        for (String word : ("column node int bool true false fold global sum least most first all some start round let send "
            + "along against give if else loop halt arc has id turn nodes degree indegree draw").split(" ")) {
            Desk.faulty(1, "column @" + word + " ; start { } round { }");
            Desk.faulty(1, "start { let @" + word + " = 1 ; } round { }");
            Desk.right(1, "start { let " + word + "0 = 1 ; } round { }");
            Desk.right(1, "start { let " + word.toUpperCase() + " = 1 ; } round { }");
            Desk.right(1, "start { let x" + word + " = 1 ; } round { }");
        }
        for (String word : "min max and or not while for return node1 columns ints name arcs".split(" ")) {
            Desk.right(1, "start { let " + word + " = 1 ; } round { }");
        }
    }

    private static void thousand() {
        // 11 TOKENS and two for each + 1
        Desk.right(1, "start{let a=-0" + "+1".repeat(494) + ";}round{}");
        Desk.right(1, "start{let a=-0" + "+1".repeat(494) + ";}round{} # and no more TOKENS");
        Desk.right(1, "start{let a=0" + "+1".repeat(494) + ";}round{}");
        Desk.faulty(2, "start{let a=0" + "+1".repeat(495) + ";}round{@}");
        Desk.faulty(2, "start{let a=-0" + "+1".repeat(495) + ";}round@{}");
        Desk.faulty(2, "start{let a=0" + "+1".repeat(497) + "@+1;}round{}");
        Desk.faulty(2, "start{let a=0" + "+1".repeat(497) + "@;}round{}");
        Desk.faulty(2, "start{let a=-0" + "+1".repeat(496) + "+@1;}round{}");
        // of one TOKEN 1
        Desk.faulty(1, "start{let a=-0" + "+1".repeat(494) + ";}round{}@;");
        Desk.faulty(1, "start{let a=0" + "+1".repeat(497) + "@{}round{}");
        Desk.faulty(1, "start{let a=0" + "+1".repeat(497) + "@$;}round{}");
        Desk.faulty(1, "start{let a=0" + "+1".repeat(497) + "@");
        Desk.faulty(1, "start{let a=0" + "+1".repeat(497) + " @2147483648;}round{}");
        // the first that reading meets
        Desk.faulty(1, "start{let a=0" + "+1".repeat(496) + "+@;}round{}");
        Desk.faulty(1, "start{let a=0;@;}" + ";".repeat(1200));
    }
}
