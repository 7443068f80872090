import com.sun.management.ThreadMXBean;
import java.lang.management.ManagementFactory;

/** The dearest run of 512 calls stays far below the room that one run has. */
public final class RoomTest {
    private static final long MOST_BYTES = 1_000_000;

    private RoomTest() {
    }

    public static void main(String[] args) {
        Due due = new Due();
        ThreadMXBean threads = (ThreadMXBean) ManagementFactory.getThreadMXBean();
        long thread = Thread.currentThread().getId();
        dearest();
        long before = threads.getThreadAllocatedBytes(thread);
        int versions = dearest();
        long made = threads.getThreadAllocatedBytes(thread) - before;
        due.is("versions", versions, 40);
        due.is("at most " + MOST_BYTES + " bytes of " + made, made <= MOST_BYTES, true);
        due.end("RoomTest");
    }

    private static int dearest() {
        ScoreSheaf x = new ScoreSheaf();
        int calls = 0;
        for (int i = 0; i < 6; i++, calls++) {
            x.piece(8, 4);
        }
        int[] lines = {0, 0, 0};
        for (int line = 0; line < 3; line++) {
            for (int i = 0; i < 8; i++, calls += 2) {
                x.note(line * 10 + i);
                lines[line] = x.write(lines[line], line, i, 0);
            }
        }
        int last = lines[0];
        for (; x.versions() < 40; calls++) {
            last = x.merge(x.versions() % 2 == 0 ? last : lines[0], lines[1 + x.versions() % 2], 0);
        }
        x.hear(0, last);
        for (int i = 0; i < 12; i++, calls++) {
            x.give(0, 9999);
        }
        for (; calls < 510; calls += 2) {
            x.isSound();
            x.ranked(5);
        }
        return x.versions();
    }
}
