/** Promise 3: of the last twenty bytes of the tape the first n (0 .. 20) stay. */
public final class Promise03EndTest {
    private static final int BLANKS = 0x20202020;

    public static void main(String[] args) {
        Desk.held("3 end: n from 0 to 20: how many it has", Promise03EndTest::howMany);
        Desk.held("3 end: the first n of the last twenty stay", Promise03EndTest::theFirst);
        Desk.held("3 end: the last twenty that are there, once more", Promise03EndTest::onceMore);
        Desk.held("3 end: BAD: another n; the tape stays", Promise03EndTest::anotherNumber);
        Desk.held("3 end: BAD: fewer than twenty are there; the tape stays", Promise03EndTest::fewerThanTwenty);
        Desk.held("3 end: just twenty, and a full tape", Promise03EndTest::justTwentyAndFull);
        Desk.held("3 end: program and RUN stay", Promise03EndTest::allElseStays);
        Desk.close();
    }

    private static int blank(VertexLanguage x) {
        return x.feed(BLANKS, BLANKS, BLANKS, BLANKS, BLANKS);
    }

    private static void howMany() {
        for (int n = 0; n <= 20; n++) {
            VertexLanguage x = new VertexLanguage();
            blank(x);
            blank(x);
            Desk.due("end(" + n + ") of forty", x.end(n), 20 + n);
            Desk.due("feed() behind it", blank(x), 40 + n);
        }
    }

    /** $ is the byte at place 7 of the last twenty. */
    private static void theFirst() {
        for (int n = 0; n <= 20; n++) {
            VertexLanguage x = new VertexLanguage();
            blank(x);
            x.feed(BLANKS, 0x20202024, BLANKS, BLANKS, BLANKS);
            x.end(n);
            Desk.due("program() behind end(" + n + ")", x.program(), -11);
            Desk.due("the place behind end(" + n + ")", x.fault(0), n <= 7 ? 20 + n : 27);
        }
    }

    private static void onceMore() {
        VertexLanguage x = new VertexLanguage();
        blank(x);
        blank(x);
        Desk.due("end(11) of forty", x.end(11), 31);
        Desk.due("end(20) of thirty-one", x.end(20), 31);
        Desk.due("end(11) of thirty-one", x.end(11), 22);
        Desk.due("end(18) of twenty-two", x.end(18), 20);
        Desk.due("end(19) of twenty", x.end(19), 19);
        Desk.due("end(19) of nineteen", x.end(19), Desk.BAD);
        Desk.due("feed() behind nineteen", blank(x), 39);
        Desk.due("end(0)", x.end(0), 19);
    }

    private static void anotherNumber() {
        VertexLanguage x = new VertexLanguage();
        x.feed(BLANKS, BLANKS, BLANKS, BLANKS, 0x20202024);
        for (int n : new int[] {-1, 21, -20, 40, Desk.LEAST, Desk.GREATEST, Desk.LEAST + 1}) {
            Desk.due("end(" + n + ")", x.end(n), Desk.BAD);
            Desk.due("it has twenty still", x.end(20), 20);
        }
        Desk.due("program()", x.program(), -11);
        Desk.due("the $ stays too", x.fault(0), 19);
    }

    private static void fewerThanTwenty() {
        VertexLanguage x = new VertexLanguage();
        for (int n = -1; n <= 21; n++) {
            Desk.due("end(" + n + ") of an empty tape", x.end(n), Desk.BAD);
        }
        for (int left = 0; left <= 19; left++) {
            x = new VertexLanguage();
            blank(x);
            x.end(left);
            for (int n : new int[] {-1, 0, left, 19, 20, 21}) {
                Desk.due("end(" + n + ") of " + left, x.end(n), Desk.BAD);
            }
            Desk.due("feed() behind the " + left, blank(x), 20 + left);
        }
    }

    private static void justTwentyAndFull() {
        VertexLanguage x = new VertexLanguage();
        Desk.due("feed()", blank(x), 20);
        Desk.due("end(0) of twenty", x.end(0), 0);
        Desk.due("end(0) of none", x.end(0), Desk.BAD);
        for (int i = 0; i < 200; i++) {
            blank(x);
        }
        Desk.due("end(20) of 4,000", x.end(20), 4000);
        Desk.due("end(0) of 4,000", x.end(0), 3980);
    }

    private static void allElseStays() {
        Desk desk = Desk.begun("node a : int = 4 ; fold f : sum ; global g : all ; start { send f 2 along ; } round { }", 2, 0, 1);
        desk.x.run(2);
        String all = desk.everything();
        Desk.due("end(0) of an empty tape", desk.x.end(0), Desk.BAD);
        Desk.due("all behind BAD", desk.everything(), all);
        blank(desk.x);
        Desk.due("end(3)", desk.x.end(3), 3);
        Desk.due("all behind end(3)", desk.everything(), all);
    }
}
