import java.nio.charset.StandardCharsets;
import java.util.List;
import java.util.Random;

/** Runs of calls by chance (from fixed seeds) on the class and on Reference: every answer has to be the same. */
public final class OracleTest {
    /** What an object answers beyond so many calls is free. */
    private static final int MOST_CALLS = 512;
    private static final int[] SEEDS = {0, 1, -1, 7, 12345, Integer.MIN_VALUE, Integer.MAX_VALUE};

    private final Random chance;
    private final VertexLanguage x = new VertexLanguage();
    private final Reference r = new Reference();
    private String story = "";
    private int calls;

    private OracleTest(Random chance) {
        this.chance = chance;
    }

    public static void main(String[] args) {
        int runs = args.length > 0 ? Integer.parseInt(args[0]) : 3000;
        int shift = args.length > 1 ? Integer.parseInt(args[1]) : 0;
        int[] seen = new int[8];
        int[] failures = new int[4];
        for (int run = shift; run < shift + runs; run++) {
            OracleTest test = new OracleTest(new Random(run * 7919L + 13));
            int answer = test.play(run);
            seen[answer >= 0 ? 0 : -answer - 10]++;
            int failure = test.r.told(4);
            failures[failure < 0 ? 0 : failure]++;
        }
        for (int i = 0; i <= 5; i++) {
            Desk.due("runs with FAULT " + i + ": " + seen[i] + ", any", seen[i] > 0, true);
        }
        for (int i = 0; i <= 3; i++) {
            Desk.due("runs with FAILURE " + i + ": " + failures[i] + ", any", failures[i] > 0, true);
        }
        if (args.length > 0) {
            System.out.println(java.util.Arrays.toString(seen) + java.util.Arrays.toString(failures));
        }
        Desk.close();
    }

    private void same(String call, int got, int want) {
        calls++;
        if (got != want) {
            Desk.due(story + "\n" + call, got, want);
        }
    }

    /** One program with its graphs and RUNS, or several short ones behind one another: the first one's answer. */
    private int play(int run) {
        boolean several = run % 4 == 1;
        story = "run " + run;
        int answer = read(run, several ? 4 : run % 10 == 0 ? 130 : 12);
        drawGraph();
        playRun(several ? 2 : 8);
        for (int i = 0; i < 6 && several && calls < MOST_CALLS / 2; i++) {
            if (chance.nextInt(3) > 0) {
                read(run, 3);
            }
            if (chance.nextInt(3) == 0) {
                drawGraph();
            }
            playRun(2);
        }
        if (!several) {
            playRun(8);
        }
        return answer;
    }

    private int read(int run, int size) {
        Author author = new Author(chance, run % 3 == 0 ? 0.03 : run % 3 == 1 ? 0.003 : 0);
        List<String> tokens = author.write(1 + chance.nextInt(size));
        String text = author.spell(tokens);
        story += "\nprogram " + text;
        feed(text.length() > 4000 ? text.substring(0, 4000) : text);
        int answer = r.program();
        same("program()", x.program(), answer);
        same("fault(0)", x.fault(0), r.fault(0));
        same("fault(1)", x.fault(1), r.fault(1));
        for (int what = -1; what <= 7; what++) {
            same("count " + what, x.count(what), r.count(what));
        }
        comparePrinted(text);
        return answer;
    }

    /** All that is PRINTED, by as many objects as it takes. */
    private void comparePrinted(String text) {
        int size = r.print(-1);
        same("print(-1)", x.print(-1), size);
        for (int i = 0; i < 12; i++) {
            int place = chance.nextInt(Math.max(size, 0) + 3) - 1;
            same("print(" + place + ")", x.print(place), r.print(place));
        }
        Desk desk = null;
        int asked = 0;
        for (int i = -3; i < size + 3; i++) {
            if (desk == null || asked == 300) {
                desk = Desk.with(text.length() > 4000 ? text.substring(0, 4000) : text);
                asked = 0;
            }
            asked++;
            int got = desk.x.print(i);
            if (got != r.print(i)) {
                Desk.due(story + "\nprint(" + i + ")", got, r.print(i));
                return;
            }
        }
    }

    private void feed(String text) {
        byte[] bytes = text.getBytes(StandardCharsets.ISO_8859_1);
        for (int from = 0; from < bytes.length; from += 20) {
            int[] words = new int[5];
            for (int i = 0; i < 20; i++) {
                words[i / 4] = words[i / 4] << 8 | (from + i < bytes.length ? bytes[from + i] & 255 : 0);
            }
            same("feed", x.feed(words[0], words[1], words[2], words[3], words[4]), r.feed(words));
            if (bytes.length - from < 20) {
                same("end", x.end(bytes.length - from), r.end(bytes.length - from));
            }
        }
    }

    private void drawGraph() {
        int n = chance.nextInt(5) == 0 ? chance.nextInt(42) : 1 + chance.nextInt(6);
        same("nodes(" + n + ")", x.nodes(n), r.nodes(n));
        int arcs = chance.nextInt(8) == 0 && calls < 120 ? 125 : chance.nextInt(14);
        for (int i = 0; i < arcs; i++) {
            int from = chance.nextInt(n + 1);
            int to = chance.nextInt(n + 1) - (chance.nextInt(20) == 0 ? 1 : 0);
            same("arc(" + from + ", " + to + ")", x.arc(from, to), r.arc(from, to));
        }
        for (int i = 0; i < 12; i++) {
            weigh();
        }
        story += "\n" + n + " nodes, " + r.count(6) + " arcs";
    }

    private void weigh() {
        int arc = chance.nextInt(r.count(6) + 2) - 1;
        int column = chance.nextInt(6) - 1;
        int v = chance.nextInt(4) == 0 ? chance.nextInt() : chance.nextInt(9) - 3;
        story += " w" + arc + "," + column + "=" + v;
        same("weight(" + arc + ", " + column + ", " + v + ")", x.weight(arc, column, v), r.weight(arc, column, v));
    }

    private void playRun(int moves) {
        int seed = chance.nextBoolean() ? chance.nextInt() : SEEDS[chance.nextInt(SEEDS.length)];
        story += "\nbegin(" + seed + ")";
        same("begin", x.begin(seed), r.begin(seed));
        look();
        for (int i = 0; i < moves && calls < MOST_CALLS - 100; i++) {
            int which = chance.nextInt(10);
            if (which < 6) {
                int turns = chance.nextInt(6) == 0 ? chance.nextInt(103) - 1 : 1 + chance.nextInt(3);
                story += " run(" + turns + ")";
                same("run(" + turns + ")", x.run(turns), r.run(turns));
            } else if (which < 9) {
                story += " undo()";
                same("undo()", x.undo(), r.undo());
            } else {
                weigh();
            }
            look();
        }
    }

    private void look() {
        for (int what = -1; what <= 10; what++) {
            same("told(" + what + ")", x.told(what), r.told(what));
        }
        for (int k = -1; k <= 4; k++) {
            same("global(" + k + ")", x.global(k), r.global(k));
        }
        int n = r.count(5);
        for (int i = 0; i < 4; i++) {
            int node = chance.nextInt(n + 2) - 1;
            int fold = chance.nextInt(6) - 1;
            int k = chance.nextInt(10) - 1;
            same("state(" + node + ", " + k + ")", x.state(node, k), r.state(node, k));
            same("message(" + node + ", " + fold + ")", x.message(node, fold), r.message(node, fold));
            same("messages(" + node + ", " + fold + ")", x.messages(node, fold), r.messages(node, fold));
            same("halted(" + node + ")", x.halted(node), r.halted(node));
        }
    }
}
