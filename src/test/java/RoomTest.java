import java.lang.management.ManagementFactory;

/** The object makes its rows once: a run of dear calls takes no further room. */
public final class RoomTest {
    private static final int OBJECT_BYTES = 20_000;
    // Far below what one object a call would take in all.
    private static final int CALLS_BYTES = 8_000;

    private static final com.sun.management.ThreadMXBean THREADS =
        (com.sun.management.ThreadMXBean) ManagementFactory.getThreadMXBean();

    public static void main(String[] args) {
        // The first runs load classes, which takes room of its own.
        for (int i = 0; i < 3; i++) {
            run();
        }
        long[] taken = run();
        Probe.due("bytes of an object are few: " + taken[0], taken[0] < OBJECT_BYTES, true);
        Probe.due("bytes of 512 calls are few: " + taken[1], taken[1] < CALLS_BYTES, true);
        Probe.end();
    }

    private static long[] run() {
        long before = THREADS.getThreadAllocatedBytes(Thread.currentThread().getId());
        TagGuide guide = new TagGuide();
        long made = THREADS.getThreadAllocatedBytes(Thread.currentThread().getId());
        String draft = "((((((a*,b+)?|c)+,d?)*|e)?,f)*,g+|h,a,b)";
        for (int i = 0; i < draft.length(); i++) {
            guide.write(draft.charAt(i));
        }
        guide.define('.');
        for (char name = 'a'; name <= 'h'; name++) {
            guide.write(name);
            guide.write('*');
            guide.define(name);
        }
        String text = "<a><a> <a/></a></a><b/><b/><c/><d/>";
        for (int i = 0; i < text.length(); i++) {
            guide.insert(i, text.charAt(i));
            guide.work();
        }
        for (int i = 0; i < 60; i++) {
            int request = guide.ask(i % 4, i % 36, 'a');
            guide.work();
            guide.answer(request);
            guide.element(i % 5, 3);
            guide.fault(0, 0);
            guide.formed(i);
        }
        long used = THREADS.getThreadAllocatedBytes(Thread.currentThread().getId());
        return new long[] {made - before, used - made};
    }
}
