import com.sun.management.ThreadMXBean;
import java.lang.management.ManagementFactory;
import java.util.function.Consumer;

/**
 * All calls of one run live in one room. What they make is counted in bytes here, of which there are
 * more than fields and elements, and far more than objects.
 */
public final class BudgetTest {
    private static final int CALLS = 512;
    private static final int ACTS = 120;
    private static final long MOST_ELEMENTS = 7_300_000;

    private BudgetTest() {
    }

    public static void main(String[] args) {
        inBudget("drawn, nested", x -> x.drawn(0, 0, true));
        inBudget("drawn", x -> x.drawn(0, 0, false));
        inBudget("export", x -> x.export(0, 0));
        inBudget("again", x -> x.again(0, 0));
        inBudget("was", x -> x.was(0, 0, ACTS));
        inBudget("order", x -> x.order(0, 0));
        inBudget("found", x -> x.found(0, 0, 11));
        inBudget("ofWord", x -> x.ofWord(0, 0, 7));
        inBudget("isSound", x -> x.isSound());
        inBudget("digest", x -> x.digest());
        inBudget("carry", x -> x.carry(1, 119, true));
        inBudget("a call that throws nothing and makes nothing", x -> x.say(0, 0, -1, 0, -1, -1));
        Check.finish("BudgetTest");
    }

    /** A chain of answers as deep as can be, and then that one call until there are 512. */
    private static void inBudget(String what, Consumer<Roomtalk> call) {
        run(call);
        ThreadMXBean bean = (ThreadMXBean) ManagementFactory.getThreadMXBean();
        long thread = Thread.currentThread().getId();
        long before = bean.getThreadAllocatedBytes(thread);
        run(call);
        long made = bean.getThreadAllocatedBytes(thread) - before;
        Check.same(what + " made " + made + ", too much", true, made < MOST_ELEMENTS);
    }

    private static void run(Consumer<Roomtalk> call) {
        Roomtalk x = new Roomtalk();
        for (int k = 0; k < ACTS; k++) {
            x.say(0, 0, k - 1, 11, 2, 1);
        }
        for (int k = ACTS; k < CALLS; k++) {
            call.accept(x);
        }
    }
}
