/** Promise 2: twenty bytes come behind the tape, the highest of each number first; FULL above 4,000. */
public final class Promise02FeedTest {
    private static final int BLANKS = 0x20202020;

    public static void main(String[] args) {
        Desk.held("2 feed: twenty bytes come behind the tape: how many it has", Promise02FeedTest::howMany);
        Desk.held("2 feed: the highest of each number first", Promise02FeedTest::highestFirst);
        Desk.held("2 feed: numbers at both ends are four bytes each", Promise02FeedTest::bothEnds);
        Desk.held("2 feed: 4,000 is the last that is not FULL", Promise02FeedTest::lastWithin);
        Desk.held("2 feed: FULL: above 4,000, by one as by twenty", Promise02FeedTest::firstBeyond);
        Desk.held("2 feed: FULL leaves the tape as it was", Promise02FeedTest::fullLeavesTheTape);
        Desk.held("2 feed: program and RUN stay, whether it is FULL or not", Promise02FeedTest::allElseStays);
        Desk.close();
    }

    private static int blank(VertexLanguage x) {
        return x.feed(BLANKS, BLANKS, BLANKS, BLANKS, BLANKS);
    }

    private static void fill(VertexLanguage x, int times) {
        for (int i = 0; i < times; i++) {
            blank(x);
        }
    }

    private static void howMany() {
        VertexLanguage x = new VertexLanguage();
        for (int i = 1; i <= 200; i++) {
            Desk.due("feed " + i, x.feed(i, -i, 0, Desk.GREATEST, Desk.LEAST), 20 * i);
        }
        x = new VertexLanguage();
        blank(x);
        x.end(3);
        Desk.due("feed() behind three bytes", blank(x), 23);
        x.program();
        Desk.due("feed() of an empty tape", blank(x), 20);
    }

    /** A $ at one place of the twenty, blanks at the others: the FAULT tells where it came to stand. */
    private static void highestFirst() {
        VertexLanguage x = new VertexLanguage();
        for (int place = 0; place < 20; place++) {
            int[] five = {BLANKS, BLANKS, BLANKS, BLANKS, BLANKS};
            int shift = 8 * (3 - place % 4);
            five[place / 4] = BLANKS & ~(255 << shift) | '$' << shift;
            blank(x);
            x.feed(five[0], five[1], five[2], five[3], five[4]);
            Desk.due("program()", x.program(), -11);
            Desk.due("the place of byte " + place, x.fault(0), 20 + place);
        }
        Desk desk = new Desk();
        desk.x.feed(0x73746172, 0x747B6C65, 0x74206162, 0x63646566, 0x3D313B7D);
        desk.x.feed(0x726F756E, 0x647B7D20, BLANKS, BLANKS, BLANKS);
        Desk.due("program() of start{let abcdef=1;}round{}", desk.x.program(), 1);
        Desk.due("printed", desk.printed(), "start { let abcdef = 1 ; } round { }");
    }

    private static void bothEnds() {
        for (int number : new int[] {Desk.LEAST, Desk.GREATEST, -1, 0, 0x80808080}) {
            VertexLanguage x = new VertexLanguage();
            Desk.due("feed(.. " + number + " ..)", x.feed(BLANKS, BLANKS, BLANKS, BLANKS, number), 20);
            Desk.due("program()", x.program(), -11);
            Desk.due("the place of the first of " + number, x.fault(0), 16);
            // behind a # all of them are passed over, up to the 10
            Desk.due("feed(# ..)", x.feed(0x20202023, number, number, number, 0x0A737461), 20);
            x.feed(0x72747B7D, 0x726F756E, 0x647B7D20, BLANKS, BLANKS);
            Desk.due("program() with " + number + " behind a #", x.program(), 0);
        }
    }

    private static void lastWithin() {
        VertexLanguage x = new VertexLanguage();
        fill(x, 199);
        Desk.due("feed() of 3,980", blank(x), 4000);
        x = new VertexLanguage();
        blank(x);
        x.end(1);
        fill(x, 198);
        Desk.due("feed() of 3,961", blank(x), 3981);
        x.end(19);
        Desk.due("end() leaves 3,980", x.end(20), 3980);
        Desk.due("feed() of 3,980 again", blank(x), 4000);
    }

    private static void firstBeyond() {
        VertexLanguage x = new VertexLanguage();
        fill(x, 200);
        Desk.due("feed() of 4,000", blank(x), Desk.FULL);
        Desk.due("feed() of 4,000 again", x.feed(0, 0, 0, 0, 0), Desk.FULL);
        Desk.due("end(19)", x.end(19), 3999);
        Desk.due("feed() of 3,999", blank(x), Desk.FULL);
        Desk.due("end(2)", x.end(2), 3981);
        Desk.due("feed() of 3,981", blank(x), Desk.FULL);
        Desk.due("end(19)", x.end(19), 3980);
        Desk.due("feed() of 3,980", blank(x), 4000);
    }

    private static void fullLeavesTheTape() {
        VertexLanguage x = new VertexLanguage();
        fill(x, 199);
        x.feed(BLANKS, BLANKS, BLANKS, BLANKS, 0x20202024);
        Desk.due("feed() of 4,000", x.feed(0x24242424, 0, 0, 0, 0), Desk.FULL);
        Desk.due("it has 4,000 still", x.end(20), 4000);
        Desk.due("program()", x.program(), -11);
        Desk.due("the $ at its end", x.fault(0), 3999);
        Desk.due("the tape is empty then", blank(x), 20);
        x.end(1);
        fill(x, 199);
        Desk.due("feed() of 3,981", x.feed(0x24242424, 0x24242424, 0x24242424, 0x24242424, 0x24242424), Desk.FULL);
        Desk.due("it has 3,981 still", x.end(20), 3981);
        Desk.due("program()", x.program(), -11);
        Desk.due("no $ there: the end of the text", x.fault(0), 3981);
    }

    private static void allElseStays() {
        Desk desk = Desk.begun("node a : int = 4 ; fold f : sum ; global g : all ; start { send f 2 along ; } round { }", 2, 0, 1);
        desk.x.run(2);
        String all = desk.everything();
        Desk.due("feed()", blank(desk.x), 20);
        Desk.due("all behind feed()", desk.everything(), all);
        fill(desk.x, 199);
        Desk.due("feed() of 4,000", blank(desk.x), Desk.FULL);
        Desk.due("all behind FULL", desk.everything(), all);
    }
}
