import java.nio.charset.StandardCharsets;
import java.util.List;
import java.util.Random;

/**
 * Calls by chance (from fixed seeds) with any arguments in any state: none may throw, and two objects
 * that get the same calls answer the same.
 */
public final class NoiseTest {
    private static final int[] EDGES = {0, 1, -1, 2, 3, 4, 7, 8, 9, 10, 19, 20, 21, 39, 40, 41, 99, 100, 101, 119, 120, 121,
        999, 1000, 1001, 3999, 4000, 4001, Integer.MAX_VALUE, Integer.MIN_VALUE, Integer.MIN_VALUE + 1};

    /** So many calls a text takes at most. */
    private static final int LONGEST = 202;

    /** Calls of both objects together. */
    private static int spent;

    public static void main(String[] args) {
        for (int seed = 0; seed < 400; seed++) {
            Random one = new Random(seed);
            Random two = new Random(seed);
            Desk first = new Desk();
            Desk second = new Desk();
            spent = 0;
            for (int call = 0; spent < 2 * (512 - LONGEST); call++) {
                int got;
                try {
                    got = call(first, one);
                } catch (RuntimeException | StackOverflowError thrown) {
                    Desk.due("seed " + seed + ", call " + call, thrown, "nothing thrown");
                    break;
                }
                int want = call(second, two);
                if (got != want) {
                    Desk.due("seed " + seed + ", call " + call, got, want);
                }
            }
        }
        Desk.due("all seeds were played", true, true);
        Desk.close();
    }

    private static int number(Random chance) {
        return chance.nextInt(3) == 0 ? chance.nextInt(6) : EDGES[chance.nextInt(EDGES.length)];
    }

    private static int call(Desk desk, Random chance) {
        spent++;
        VertexLanguage x = desk.x;
        int a = number(chance);
        int b = number(chance);
        switch (chance.nextInt(22)) {
            case 0:
                return x.feed(chance.nextInt(), a, b, 0x20202020, 0x7B7D3B28);
            case 1:
                return x.end(chance.nextInt(4) == 0 ? a : chance.nextInt(21));
            case 2:
                return chance.nextInt(8) == 0 ? x.program() : x.begin(a);
            case 3:
                return x.fault(a);
            case 4:
                return x.print(a);
            case 5:
                return x.name();
            case 6:
                return x.count(a);
            case 7:
                return chance.nextInt(4) == 0 ? x.nodes(a) : x.begin(b);
            case 8:
                return x.arc(chance.nextInt(4), chance.nextInt(4));
            case 9:
                return x.arc(a, b);
            case 10:
                return x.weight(a, b, chance.nextInt());
            case 11:
                return x.begin(a);
            case 12:
            case 13:
                return x.run(a);
            case 14:
                return x.undo();
            case 15:
                return x.told(a);
            case 16:
                return x.state(a, b);
            case 17:
                return x.message(a, b);
            case 18:
                return x.messages(a, b);
            case 19:
                return x.global(a);
            case 20:
                return x.halted(a);
            default:
                return text(desk, chance);
        }
    }

    private static int text(Desk desk, Random chance) {
        Author author = new Author(chance, 0.002);
        List<String> tokens = author.write(1 + chance.nextInt(20));
        String text = author.spell(tokens);
        if (chance.nextInt(6) == 0) {
            byte[] bytes = text.getBytes(StandardCharsets.ISO_8859_1);
            for (int i = 0; i < 5; i++) {
                bytes[chance.nextInt(bytes.length)] = (byte) chance.nextInt(256);
            }
            text = new String(bytes, StandardCharsets.ISO_8859_1);
        }
        text = text.length() > 4000 ? text.substring(0, 4000) : text;
        spent += text.length() / 20 + 2;
        desk.x.program();
        return desk.load(text);
    }
}
