import com.sun.management.ThreadMXBean;
import java.lang.management.ManagementFactory;

/** What room an object takes: all of it as it is made, none by its calls. */
public final class RoomTest {
    private static final int CALLS = 512, MOST_BYTES = 40_000;
    private static final String TEXT = "u06;303;052;991;204,d0012,h1013,f0110,d1229,h1304,f0055";
    private static final Check CHECK = new Check();
    private static final ThreadMXBean THREADS = (ThreadMXBean) ManagementFactory.getThreadMXBean();

    private static int calls;

    public static void main(String[] args) {
        // What the machine itself makes when code runs for the first time is not the class's: so the least of some runs.
        long ofNew = Long.MAX_VALUE;
        long ofCalls = Long.MAX_VALUE;
        for (int run = 0; run < 5; run++) {
            long before = made();
            TwoTowns x = new TwoTowns();
            long behindNew = made();
            play(x);
            ofNew = Math.min(ofNew, behindNew - before);
            ofCalls = Math.min(ofCalls, made() - behindNew);
        }
        CHECK.due("bytes of a new object: " + ofNew, ofNew <= MOST_BYTES ? 1 : 0, 1);
        CHECK.due("bytes made by " + CALLS + " calls", ofCalls, 0);
        CHECK.due("calls", calls, CALLS);
        CHECK.end();
    }

    private static long made() {
        return THREADS.getCurrentThreadAllocatedBytes();
    }

    private static void play(TwoTowns x) {
        calls = 0;
        x.sheet(0, 0, TEXT.length());
        for (int k = 0; k < TEXT.length(); k++) {
            x.put(0, k, TEXT.charAt(k));
        }
        calls += 1 + TEXT.length();
        while (calls + 39 <= CALLS) {
            oneOfEach(x, calls % 6);
        }
        while (calls < CALLS) {
            x.sheet(1, 2, 60);
            calls++;
        }
    }

    private static void oneOfEach(TwoTowns x, int p) {
        x.houses(0, 0, 0, TEXT.length());
        x.ofHouse(0, 0);
        x.ofPerson(p, 5);
        x.seam(5);
        x.away(p, true);
        x.gift(0, 0, 9);
        x.undo(0);
        x.wood(0, 0, 0);
        x.wear(0, 0, 0);
        x.cold(0, 0);
        x.chills(p, 9);
        x.all();
        x.breaks(0);
        x.best(0);
        x.blame(p);
        x.warm((p + 1) % 6);
        x.logs(0);
        x.pays(p, 9, 1);
        x.together(p, (p + 1) % 6, 5);
        x.third(0);
        x.sheet(1, 2, 14);
        x.row(1, 2, 0, 14);
        x.reading(0, 0, 0, 1);
        x.back(0);
        x.gone();
        x.seams();
        x.kinds(p);
        x.odds(9, 0);
        x.sheet(2, 2, 60);
        x.lose(3);
        x.put(2, 59, 7);
        x.cell(2, 59, 2);
        x.copy(1, 0, 2, 0, 14);
        x.tell(p);
        x.knock(p);
        x.as(p, 0);
        x.trace();
        x.fault();
        x.many(0);
        calls += 39;
    }
}
