import java.nio.charset.StandardCharsets;
import java.util.Objects;

/** What the tests share: an object to be asked, texts fed to it, and a count of wrong answers. */
final class Desk {
    static final int BAD = VertexLanguage.BAD, NONE = VertexLanguage.NONE;
    static final int FULL = VertexLanguage.FULL, FAILED = VertexLanguage.FAILED;

    private static int wrong = 0;
    private static int asked = 0;

    VertexLanguage x = new VertexLanguage();

    static void due(String call, Object got, Object want) {
        asked++;
        if (!Objects.equals(got, want)) {
            wrong++;
            System.out.println(shortened(call) + " answered " + got + ", due is " + want);
        }
    }

    private static String shortened(String call) {
        int size = call.length();
        return size <= 800 ? call : call.substring(0, 300) + " .. " + call.substring(size - 400);
    }

    /** Ends the test: exit code 1 if an answer was wrong. */
    static void close() {
        System.out.println(asked + " answers, " + wrong + " wrong");
        System.exit(wrong == 0 ? 0 : 1);
    }

    static Desk with(String text) {
        Desk desk = new Desk();
        desk.load(text);
        return desk;
    }

    /** A desk with a program that has to be right, and a graph with so many nodes. */
    static Desk with(String text, int nodes, int... ends) {
        Desk desk = new Desk();
        int answer = desk.load(text);
        if (answer < 0) {
            due("program() of " + text + " at " + desk.x.fault(0), answer, "no FAULT");
        }
        desk.x.nodes(nodes);
        for (int i = 0; i + 1 < ends.length; i += 2) {
            desk.x.arc(ends[i], ends[i + 1]);
        }
        return desk;
    }

    void feed(String text) {
        byte[] bytes = text.getBytes(StandardCharsets.ISO_8859_1);
        for (int from = 0; from < bytes.length; from += 20) {
            x.feed(word(bytes, from), word(bytes, from + 4), word(bytes, from + 8), word(bytes, from + 12),
                word(bytes, from + 16));
            if (bytes.length - from < 20) {
                x.end(bytes.length - from);
            }
        }
    }

    private static int word(byte[] bytes, int from) {
        int word = 0;
        for (int i = from; i < from + 4; i++) {
            word = word << 8 | (i < bytes.length ? bytes[i] & 255 : 0);
        }
        return word;
    }

    int load(String text) {
        feed(text);
        return x.program();
    }

    int find(String name) {
        feed(name);
        return x.name();
    }

    String printed() {
        StringBuilder out = new StringBuilder();
        int size = x.print(-1);
        for (int i = 0; i < size; i++) {
            out.append((char) x.print(i));
        }
        return out.toString();
    }

    /** States of one node, in a row. */
    String states(int node) {
        StringBuilder out = new StringBuilder();
        for (int k = 0; k < x.count(1); k++) {
            out.append(k == 0 ? "" : " ").append(x.state(node, k));
        }
        return out.toString();
    }

    /** State k of all nodes, in a row. */
    String column(int k) {
        StringBuilder out = new StringBuilder();
        for (int node = 0; node < x.count(5); node++) {
            out.append(node == 0 ? "" : " ").append(x.state(node, k));
        }
        return out.toString();
    }
}
