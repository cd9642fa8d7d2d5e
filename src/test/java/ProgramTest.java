/** Promises 4 (program) and 8 (count): what is a program, how many statements it has, what a new one ends. */
public final class ProgramTest {
    public static void main(String[] args) {
        statements();
        limitsThatAreKept();
        whatEnds();
        counts();
        Desk.close();
    }

    private static void due(String text, int want) {
        Desk desk = new Desk();
        int got = desk.load(text);
        Desk.due("program() of " + text + " (fault at " + desk.x.fault(0) + ")", got, want);
        Desk.due("count(4) of " + text, desk.x.count(4), Math.max(want, 0));
    }

    private static void statements() {
        due("start{}round{}", 0);
        due("start { halt ; } round { }", 1);
        due("start { } round { halt ; halt ; }", 2);
        due("start { loop 3 { halt ; } } round { if true { halt ; } else { halt ; halt ; } }", 6);
        due("start { if true { } } round { if false { } else { } }", 2);
        due("node a:int=-5;node b:bool=false;start{a=1;b=!b;let c=a;c=c+1;}round{}", 4);
        due("column w;fold f:sum;global g:most;start{send f arc.w along;send f 1 against;give g 3;}round{}", 3);
        due("# nothing\nstart # { ; \n{ } # more \u00ff\n round { }# to the end", 0);
        due("start { loop 0 { } } round { loop 100 { } }", 2);
        due("start { let a = 007 ; let b = 00000000002147483647 ; } round { }", 2);
        due("start { let x = if ( true , 1 , 2 ) ; if if ( true , true , false ) { } } round { }", 2);
        due("start { let Abcdefghij12 = 1 ; let abcdefghij12 = 2 ; } round { }", 2);
        due("start { let a = 1==1 ; let b = 1<=1 ; let c = 1--1 ; let d = !!true ; let e=a&&!b||c!=-d; } round { }", -15);
        due("start { let a = 1==1 ; let b = 1<=1 ; let c = 1--1 ; let d = !!true ; let e=a&&!b||c!=-c; } round { }", 5);
        due("start { let a = 5 - - 5 * - draw ( - 1 + 2 ) % id ; } round { }", 1);
        due("start { if ( true ) { } if ( true ) == ( false ) { } } round { }", 2);
    }

    private static String times(int n, String part) {
        return part.repeat(n);
    }

    private static void limitsThatAreKept() {
        due("start { " + times(120, "halt ; ") + "} round { }", 120);
        due("start { " + times(60, "halt ; ") + "} round { " + times(60, "halt ; ") + "}", 120);
        due("start { " + times(121, "halt ; ") + "} round { }", -12);
        due("start { let a = - 0" + times(494, " + 1") + " ; } round { }", 1);
        due("start { let a = - - 0" + times(494, "+1") + ";}round{}", -12);
        due("column a;column b;column c;column d;node e:int=1;node f:int=1;node g:int=1;node h:int=1;node i:int=1;"
            + "node j:int=1;node k:int=1;node l:int=1;fold m:sum;fold n:least;fold o:most;fold p:first;global q:all;"
            + "global r:some;global s:sum;global t:sum;start{let u=1;let v=1;let w=1;let x=1;let y=1;let z=1;let A=1;"
            + "let B=1;}round{let u=1;}", 9);
        due("start { " + times(12, "loop 1 { ") + times(12, "} ") + "} round { }", 12);
        due("start { " + times(13, "loop 1 { ") + times(13, "} ") + "} round { }", -12);
        due("start { let a = " + times(11, "( ") + "1 " + times(11, ") ") + "; } round { }", 1);
        due("start { let a = " + times(12, "( ") + "1 " + times(12, ") ") + "; } round { }", -12);
        due("start { let a = 1 ; let b = 1 ; let c = 1 ; let d = 1 ; " + times(3, "if true { let e = 1 ; let f = 1 ; "
            + "let g = 1 ; let h = 1 ; } ") + "} round { }", 19);
    }

    private static void whatEnds() {
        Desk desk = Desk.with("node a : int = 3 ; start { } round { }", 2);
        desk.x.begin(1);
        Desk.due("run(1)", desk.x.run(1), 1);
        Desk.due("told(0)", desk.x.told(0), 1);
        desk.load("start { } round { }");
        Desk.due("told(0) behind a new program", desk.x.told(0), Desk.BAD);
        Desk.due("run(1) behind a new program", desk.x.run(1), Desk.BAD);
        Desk.due("undo() behind a new program", desk.x.undo(), Desk.BAD);
        Desk.due("count(1) of it", desk.x.count(1), 0);
        Desk.due("the nodes stay", desk.x.count(5), 2);
        desk.x.begin(1);
        desk.load("start { } round {");
        Desk.due("told(0) behind a wrong program", desk.x.told(0), Desk.BAD);
        Desk.due("begin() behind a wrong program", desk.x.begin(1), Desk.BAD);
        Desk.due("print(-1) behind a wrong program", desk.x.print(-1), Desk.BAD);
        Desk.due("print(0) behind a wrong program", desk.x.print(0), Desk.BAD);
        Desk.due("name() behind a wrong program", desk.find("a"), Desk.BAD);
        Desk.due("a right one again, behind what name() left on the tape", desk.load(" # \nstart { } round { }"), -11);
        Desk.due("a right one again", desk.load("start { } round { halt ; }"), 1);
        Desk.due("fault(0) of it", desk.x.fault(0), Desk.NONE);
        Desk.due("begin() of it", desk.x.begin(1), 1);
    }

    private static void counts() {
        Desk desk = Desk.with("column a ; column b ; column c ; node d : int = 1 ; node e : bool = true ; fold f : sum ; "
            + "start { let x = 1 ; } round { loop 2 { halt ; } }", 7, 0, 1, 6, 6);
        int[] want = {3, 2, 1, 0, 3, 7, 2};
        for (int what = 0; what < want.length; what++) {
            Desk.due("count(" + what + ")", desk.x.count(what), want[what]);
        }
        Desk.due("count(-1)", desk.x.count(-1), Desk.BAD);
        Desk.due("count(7)", desk.x.count(7), Desk.BAD);
        Desk.due("count(least)", desk.x.count(Integer.MIN_VALUE), Desk.BAD);
        desk.load("column a ; column b ; global g : all ; start { halt ; } round { } halt");
        for (int what = 0; what <= 4; what++) {
            Desk.due("without a program count(" + what + ")", desk.x.count(what), 0);
        }
        Desk.due("without a program count(5)", desk.x.count(5), 7);
        Desk.due("without a program count(6)", desk.x.count(6), 2);
        desk.load("global g : all ; global h : all ; start { } round { }");
        Desk.due("count(0) of another program", desk.x.count(0), 0);
        Desk.due("count(3) of another program", desk.x.count(3), 2);
    }
}
