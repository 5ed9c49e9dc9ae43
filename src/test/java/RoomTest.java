import java.lang.management.ManagementFactory;

/**
 * All calls of one run live in one room: 512 of the dearest calls of each sort make few objects, and come to an end soon.
 */
public final class RoomTest extends Asked {
    /** What the room holds are 7.3 million fields and elements; of a run no call's sort may take a tenth of it. */
    private static final long MOST_BYTES = 7_300_000L / 10 * 4;
    private static final long MOST_MILLIS = 60_000;
    private static final int CALLS = 512;

    private interface Call {
        void ask(NorthCurve x, int k);
    }

    public static void main(String[] args) {
        // what the first calls load is the machine's, not a run's
        warm();
        making();
        promise = "the room";
        each("dropped", (x, k) -> x.dropped(k % 24, k % 12, 0));
        each("mean", (x, k) -> x.mean(k % 24, k % 5, 0));
        each("dated", (x, k) -> x.dated(k % 24, 0));
        each("edition", (x, k) -> x.edition());
        each("without", (x, k) -> x.without(0, k % 24, k, 0));
        each("changed", (x, k) -> x.changed(0, 1));
        each("date", (x, k) -> x.date(k % 24, 0, true));
        each("piece", (x, k) -> piece(x, k % 24, 0, true, 0, 0));
        each("piece that is none", (x, k) -> piece(x, k % 24, 0, true, 800, 0));
        each("quarrels", (x, k) -> x.quarrels(0));
        each("test", (x, k) -> x.test(0, 1));
        each("choose", (x, k) -> x.choose(0, 9999, 0));
        each("report", (x, k) -> x.report(k % 24, 0));
        each("reportOf", (x, k) -> x.reportOf(0, 6));
        each("rules", (x, k) -> {
            feed(x, "drop if [[[[d<1]]]] or not (((i))) > 2; ".repeat(10));
            x.rules();
        });
        each("rules with a FAULT at the end", (x, k) -> {
            feed(x, "drop if d<1or ".repeat(28));
            x.rules();
        });
        tellAndEnd();
    }

    private static void warm() {
        for (int k = 0; k < 3; k++) {
            NorthCurve x = loaded();
            x.date(20, 0, true);
            x.report(20, 0);
            x.choose(0, 9999, 0);
            piece(x, 20, 0, true, 800, 0);
        }
        used();
    }

    private static void making() {
        promise = "the room";
        long before = used();
        loaded();
        due("an object full of things makes little", true, used() - before < MOST_BYTES);
    }

    private static void each(String what, Call call) {
        NorthCurve x = loaded();
        long before = used();
        long since = System.nanoTime();
        for (int k = 0; k < CALLS; k++) call.ask(x, k);
        long bytes = used() - before;
        long millis = (System.nanoTime() - since) / 1_000_000;
        due(what + " made " + bytes + " bytes, few of which", true, bytes < MOST_BYTES);
        due(what + " took " + millis + " ms, soon enough which", true, millis < MOST_MILLIS);
    }

    /** What this thread has made till now, in bytes. */
    private static long used() {
        return ((com.sun.management.ThreadMXBean) ManagementFactory.getThreadMXBean()).getThreadAllocatedBytes(Thread.currentThread().getId());
    }

    /**
     * 24 HEARTHS of 12 CUBES, 60 ORDERS, 14 HEARTHS dated along a curve that leaves and comes back again and again,
     * so that the others' DATES have many PIECES.
     */
    private static NorthCurve loaded() {
        NorthCurve x = new NorthCurve();
        for (int h = 0; h < 24; h++) {
            x.hearth(h % 6);
            for (int c = 0; c < 12; c++) x.cube(h, c % 4, h < 14 ? h % 2 * 300 : 150, c, h * 10);
            x.cost(h, 1 + h);
            if (h < 14) x.witness(h, 0, h * 100, h * 100);
        }
        for (int machine = 0; machine < 4; machine++) for (int p = 0; p < 10; p++) x.twice(machine, p, machine, p);
        for (int h = 0; h < 23; h++) for (int g = h + 1; g < 24 && g < h + 4; g++) x.order(h, g);
        feed(x, "base 0; window 90; keep 1; limit 20; drop if d * i * s > 9999 * 9999 and [d < 0 or d > 9];");
        due("RULES", 5, x.rules());
        due("EDITION", 0, x.edition());
        due("EDITION", 1, x.edition());
        return x;
    }
}
