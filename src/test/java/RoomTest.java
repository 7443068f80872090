import com.sun.management.ThreadMXBean;
import java.lang.management.ManagementFactory;

/** The dearest run of 512 calls stays within the room that all calls of one run have. */
public final class RoomTest {
    /**
     * The room is some 600,000 objects and arrays, 7.3 million fields and elements in all. An object takes 16 bytes
     * at least, and a field or element one: so many bytes are below both.
     */
    private static final long MOST_BYTES = 7_300_000;

    private RoomTest() {
    }

    public static void main(String[] args) {
        Due due = new Due();
        ThreadMXBean threads = (ThreadMXBean) ManagementFactory.getThreadMXBean();
        long thread = Thread.currentThread().getId();
        dearest();
        long before = threads.getThreadAllocatedBytes(thread);
        int versions = dearest();
        long made = threads.getThreadAllocatedBytes(thread) - before;
        due.is("versions", versions, 40);
        due.is("at most " + MOST_BYTES + " bytes of " + made, made <= MOST_BYTES, true);
        due.end("RoomTest");
    }

    /** Writes, merges and prizes make objects; what only asks fills the rest of the calls. */
    private static int dearest() {
        ScoreSheaf x = new ScoreSheaf();
        int calls = 0;
        for (int i = 0; i < 6; i++, calls++) {
            x.piece(8, 4);
        }
        int[] lines = {0, 0, 0};
        for (int line = 0; line < 3; line++) {
            for (int i = 0; i < 8; i++, calls += 2) {
                x.note(line * 10 + i);
                lines[line] = x.write(lines[line], line, i, 0);
            }
        }
        int last = lines[2];
        for (; last < 39; calls++) {
            last = x.merge(last % 2 == 0 ? last : lines[0], lines[1 + last % 2], 0);
        }
        x.hear(0, last);
        calls++;
        for (int i = 0; i < 12; i++, calls++) {
            x.give(0, 9999);
        }
        for (; calls < 508; calls += 4) {
            x.isSound();
            x.ranked(5);
            x.checksum(last);
            x.unlike(last, 0);
        }
        return last + 1;
    }
}
