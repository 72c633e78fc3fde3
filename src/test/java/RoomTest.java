import com.sun.management.ThreadMXBean;
import java.lang.management.ManagementFactory;

/** All calls of one run live in one room: what the dearest 512 calls make must stay small, since nothing is ever thrown away there. */
public final class RoomTest {
    private static final ThreadMXBean MEMORY = (ThreadMXBean) ManagementFactory.getThreadMXBean();
    private static long made = 0;

    public static void main(String[] args) {
        // LEFT is the shortest STATEMENT that makes a row of its own: here one of 398 PLACES.
        heaviest();
        // What is REFUSED makes nothing.
        refused("SAMEz;");
        refused("LEFT9;");
        refused("ASSUME" + Bench.wide(398) + "0;");
        Bench.done();
    }

    private static long bytes() {
        return MEMORY.getThreadAllocatedBytes(Thread.currentThread().getId());
    }

    private static void run(Bench bench, String text) {
        bench.feed(text);
        long before = bytes();
        bench.object.run();
        made += bytes() - before;
    }

    private static void heaviest() {
        Bench bench = new Bench();
        run(bench, "REL p(num);AXIOM a &(" + Bench.wide(398) + ",#);");
        String proof = "PROOF;USEa;" + Bench.repeat("LEFT0;", 299);
        String text = proof + proof + "PROOF;USEa;" + Bench.repeat("LEFT0;", 60);
        for (int k = 0; k < 5; k++) {
            run(bench, text);
        }
        Bench.due("STATEMENTS that were not REFUSED", bench.object.refusals(0), 2 + 5 * (299 + 299 + 60 + 6));
        // 7.3 million fields and elements are more than 29 million bytes: half of it is enough.
        Bench.due(made + " bytes are few", made < 14_600_000, true);
    }

    private static void refused(String statement) {
        Bench bench = new Bench();
        String text = Bench.repeat(statement, 3900 / statement.length());
        run(bench, text);
        made = 0;
        run(bench, text);
        Bench.due(statement + " makes " + made, made < 2000, true);
    }
}
