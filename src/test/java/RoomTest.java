import java.lang.management.ManagementFactory;

/** What a run of 512 calls makes stays far below the room that there is (7.3 million fields and elements). */
public final class RoomTest {
    public static void main(String[] args) {
        com.sun.management.ThreadMXBean meter = (com.sun.management.ThreadMXBean) ManagementFactory.getThreadMXBean();
        long own = Thread.currentThread().getId();
        reading(new VertexLanguage(), 2);
        running(new VertexLanguage());
        long before = meter.getThreadAllocatedBytes(own);
        VertexLanguage x = new VertexLanguage();
        long made = meter.getThreadAllocatedBytes(own) - before;
        Desk.due("bytes of a new object: " + made + ", below 400,000", made < 400_000, true);

        before = meter.getThreadAllocatedBytes(own);
        reading(x, 17);
        made = meter.getThreadAllocatedBytes(own) - before;
        Desk.due("bytes of reading 17 long texts: " + made + ", below 2,000,000", made < 2_000_000, true);

        VertexLanguage other = new VertexLanguage();
        reading(other, 1);
        before = meter.getThreadAllocatedBytes(own);
        int turns = running(other);
        made = meter.getThreadAllocatedBytes(own) - before;
        Desk.due("turns", turns, 12_000);
        Desk.due("bytes of " + turns + " turns: " + made + ", below 10,000", made < 10_000, true);
        Desk.close();
    }

    /** Texts of the form start{let a=1+1+..;}round{}, each of 560 bytes: as many TOKENS as 28 calls can bring. */
    private static void reading(VertexLanguage x, int texts) {
        for (int i = 0; i < texts; i++) {
            x.feed(0x73746172, 0x747B6C65, 0x7420613D, 0x31202020, 0x20202020);
            for (int k = 0; k < 26; k++) {
                x.feed(0x2B312B31, 0x2B312B31, 0x2B312B31, 0x2B312B31, 0x2B312B31);
            }
            x.feed(0x3B7D726F, 0x756E647B, 0x7D202020, 0x20202020, 0x20202020);
            Desk.due("program()", x.program(), 1);
        }
    }

    private static int running(VertexLanguage x) {
        int sum = 0;
        x.nodes(40);
        for (int i = 0; i < 120; i++) {
            x.arc(i % 40, (i * 7 + 1) % 40);
        }
        x.begin(1);
        for (int i = 0; i < 120; i++) {
            sum += x.run(100);
            x.undo();
            x.told(9);
        }
        return sum;
    }
}
