import java.nio.charset.StandardCharsets;
import java.util.Objects;

/**
 * What the tests share: an object to be asked, texts fed to it, and a count of wrong answers.
 * No test asks one object more than 512 times: what it answers then is free.
 */
final class Desk {
    static final int BAD = VertexLanguage.BAD, NONE = VertexLanguage.NONE;
    static final int FULL = VertexLanguage.FULL, FAILED = VertexLanguage.FAILED;
    static final int LEAST = Integer.MIN_VALUE, GREATEST = Integer.MAX_VALUE;

    private static int wrong = 0;
    private static int asked = 0;

    VertexLanguage x = new VertexLanguage();

    static void due(String call, Object got, Object want) {
        asked++;
        if (!Objects.equals(got, want)) {
            wrong++;
            System.out.println(shortened(call) + " answered " + got + ", due is " + want);
        }
    }

    private static String shortened(String call) {
        int size = call.length();
        return size <= 800 ? call : call.substring(0, 300) + " .. " + call.substring(size - 400);
    }

    /** The test of one sentence of the document, named by its promise. */
    static void held(String sentence, Runnable test) {
        int before = wrong;
        try {
            test.run();
        } catch (RuntimeException | StackOverflowError thrown) {
            due(sentence, thrown, "nothing thrown");
        }
        System.out.println((wrong == before ? "  held: " : "  BROKEN: ") + sentence);
    }

    /** Ends the test: exit code 1 if an answer was wrong. */
    static void close() {
        System.out.println(asked + " answers, " + wrong + " wrong");
        System.exit(wrong == 0 ? 0 : 1);
    }

    static Desk with(String text) {
        Desk desk = new Desk();
        desk.load(text);
        return desk;
    }

    /** A desk with a program that has to be right, and a graph with so many nodes and these arcs. */
    static Desk with(String text, int nodes, int... ends) {
        Desk desk = new Desk();
        int answer = desk.load(text);
        if (answer < 0) {
            due("program() of " + text + " at " + desk.x.fault(0), answer, "no FAULT");
        }
        desk.x.nodes(nodes);
        for (int i = 0; i + 1 < ends.length; i += 2) {
            desk.x.arc(ends[i], ends[i + 1]);
        }
        return desk;
    }

    /** The same, with a RUN of seed 0 that has begun. */
    static Desk begun(String text, int nodes, int... ends) {
        Desk desk = with(text, nodes, ends);
        desk.x.begin(0);
        return desk;
    }

    /** The text with its @ taken out has this FAULT at the place of the @, and is no program. */
    static void faulty(int number, String marked) {
        int place = marked.indexOf('@');
        String text = marked.substring(0, place) + marked.substring(place + 1);
        Desk desk = new Desk();
        due("program() of " + text, desk.load(text), -10 - number);
        due("fault(0) of " + text, desk.x.fault(0), place);
        due("fault(1) of " + text, desk.x.fault(1), text.substring(0, place).split("\n", -1).length);
        due("print(-1) of " + text, desk.x.print(-1), BAD);
    }

    /** The text has no FAULT and so many statements. */
    static void right(int statements, String text) {
        Desk desk = new Desk();
        int got = desk.load(text);
        due("program() of " + text + " (its FAULT at " + desk.x.fault(0) + ")", got, statements);
        due("fault(0) of " + text, desk.x.fault(0), NONE);
        due("fault(1) of " + text, desk.x.fault(1), NONE);
    }

    static String times(int n, String part) {
        return part.repeat(n);
    }

    void feed(String text) {
        byte[] bytes = text.getBytes(StandardCharsets.ISO_8859_1);
        for (int from = 0; from < bytes.length; from += 20) {
            x.feed(word(bytes, from), word(bytes, from + 4), word(bytes, from + 8), word(bytes, from + 12),
                word(bytes, from + 16));
            if (bytes.length - from < 20) {
                x.end(bytes.length - from);
            }
        }
    }

    private static int word(byte[] bytes, int from) {
        int word = 0;
        for (int i = from; i < from + 4; i++) {
            word = word << 8 | (i < bytes.length ? bytes[i] & 255 : 0);
        }
        return word;
    }

    int load(String text) {
        feed(text);
        return x.program();
    }

    int find(String name) {
        feed(name);
        return x.name();
    }

    String printed() {
        StringBuilder out = new StringBuilder();
        int size = x.print(-1);
        for (int i = 0; i < size; i++) {
            out.append((char) x.print(i));
        }
        return out.toString();
    }

    /** States of one node, in a row. */
    String states(int node) {
        StringBuilder out = new StringBuilder();
        for (int k = 0; k < x.count(1); k++) {
            out.append(k == 0 ? "" : " ").append(x.state(node, k));
        }
        return out.toString();
    }

    /** State k of all nodes, in a row. */
    String column(int k) {
        StringBuilder out = new StringBuilder();
        for (int node = 0; node < x.count(5); node++) {
            out.append(node == 0 ? "" : " ").append(x.state(node, k));
        }
        return out.toString();
    }

    /** Answers of told() to a row of whats. */
    String told(int... whats) {
        StringBuilder out = new StringBuilder();
        for (int i = 0; i < whats.length; i++) {
            out.append(i == 0 ? "" : " ").append(x.told(whats[i]));
        }
        return out.toString();
    }

    /** What the TURNS of a RUN change: states, messages, globals, who has halted. */
    String standing() {
        StringBuilder out = new StringBuilder(told(0, 1, 2, 3));
        int nodes = x.count(5);
        int states = x.count(1);
        int folds = x.count(2);
        for (int node = 0; node < nodes; node++) {
            out.append(" node ").append(node).append(" halted ").append(x.halted(node)).append(" states");
            for (int k = 0; k < states; k++) {
                out.append(' ').append(x.state(node, k));
            }
            for (int fold = 0; fold < folds; fold++) {
                out.append(" fold ").append(x.message(node, fold)).append(" of ").append(x.messages(node, fold));
            }
        }
        int globals = x.count(3);
        for (int k = 0; k < globals; k++) {
            out.append(" global ").append(x.global(k));
        }
        return out.toString();
    }

    /** All that can be read but for the tape, what is PRINTED, and the numbers of arcs. */
    String everything() {
        StringBuilder out = new StringBuilder();
        for (int what = 0; what <= 6; what++) {
            out.append(" count ").append(x.count(what));
        }
        out.append(" fault ").append(x.fault(0)).append(' ').append(x.fault(1)).append(" printed ").append(x.print(-1));
        return out.append(" told ").append(told(4, 5, 6, 7, 8, 9)).append(' ').append(standing()).toString();
    }
}
