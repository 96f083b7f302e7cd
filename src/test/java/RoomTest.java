import java.lang.management.ManagementFactory;
import java.util.function.IntConsumer;

/** What 512 calls of the dearest kinds make stays far below the room of a run (LANGUAGE.md, rule 12). */
public final class RoomTest {
    /** 7.3 million fields and elements are more than 29 million bytes; a run may have several objects. */
    private static final long MOST_BYTES = 2_000_000L;
    private static final int CALLS = 512;
    private static final Check check = new Check();

    public static void main(String[] args) {
        String work = "time 480" + ";kind 9 9 1".repeat(6) + ";fault 0 1 50".repeat(10);
        String rule = "look 1" + "+pay*2".repeat(20) + " if not not [odds>1 or left<5]";
        PaidMistakes x = new PaidMistakes();
        PaidMistakes[] kept = new PaidMistakes[1];
        allocated("new object", i -> kept[0] = new PaidMistakes(), 40);
        allocated("work", i -> Check.work(x, work), CALLS / 10);
        allocated("a faulty work", i -> x.work(), CALLS);
        allocated("rule", i -> Check.rule(x, rule), CALLS / 10);
        allocated("weeks", i -> x.weeks(0, 20, i % 3), CALLS);
        allocated("would", i -> x.would(0, i % 5), CALLS);
        allocated("master", i -> x.master(4, i % 3), CALLS);
        allocated("best", i -> x.best(5, i % 3), CALLS);
        allocated("fits", i -> x.fits(9 * (i % 10), i % 3), CALLS);
        allocated("image", i -> x.image(i % 4), CALLS);
        allocated("back", i -> x.back(i % 4), CALLS);
        for (int i = 0; i < 8; i++) {
            x.row(i % 4);
        }
        allocated("worth", i -> x.worth(i % 2), CALLS);
        allocated("seen", i -> x.seen(i % 10, i % 2), CALLS);
        check.close("RoomTest");
    }

    private static void allocated(String name, IntConsumer call, int times) {
        com.sun.management.ThreadMXBean bean = (com.sun.management.ThreadMXBean) ManagementFactory.getThreadMXBean();
        call.accept(0);
        long before = bean.getCurrentThreadAllocatedBytes();
        for (int i = 0; i < times; i++) {
            call.accept(i);
        }
        long bytes = bean.getCurrentThreadAllocatedBytes() - before;
        check.holds(times + " times " + name + " made " + bytes + " bytes", bytes < MOST_BYTES);
    }
}
