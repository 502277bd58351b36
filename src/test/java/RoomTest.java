import com.sun.management.ThreadMXBean;
import java.lang.management.ManagementFactory;

/** What a run makes stays far below the room that all its calls share. */
public final class RoomTest {
    private static final Due DUE = new Due("RoomTest");
    private static final ThreadMXBean THREADS = (ThreadMXBean) ManagementFactory.getThreadMXBean();

    public static void main(String[] args) {
        long[] good = packed("#A?" + "(".repeat(9) + "Eyx.b:Ezy.b:!z=n|n=n|n=n" + ")".repeat(9) + "&n=n&0=0");
        long[] bad = packed("#A?" + "(".repeat(9) + "Eyx.b:Ezy.b:!z=n|n=n|n=n" + ")".repeat(9) + "&n=n&0=n");
        run(good, bad);
        long before = THREADS.getCurrentThreadAllocatedBytes();
        int fit = run(good, bad);
        long bytes = THREADS.getCurrentThreadAllocatedBytes() - before;
        System.out.println("RoomTest: a run of some 500 calls makes " + bytes + " bytes");
        DUE.is("all fit", fit, 16);
        DUE.yes("a run makes less than 100,000 bytes", bytes < 100_000);
        DUE.end();
    }

    private static long[] packed(String text) {
        long[] pieces = new long[(text.length() + 7) / 8];
        for (int i = 0; i < pieces.length; i++) {
            pieces[i] = Texts.packed(text.substring(8 * i, Math.min(text.length(), 8 * i + 8)));
        }
        return pieces;
    }

    private static int run(long[] good, long[] bad) {
        ObjectBase x = new ObjectBase();
        x.type(0);
        x.field(1, 0, 0);
        x.field(1, 2, 1);
        x.index(1, 0, -1, -1);
        x.begin();
        for (int id = 1; id <= 16; id++) {
            x.make(1);
            x.join(1, 1, id, true);
            x.join(id, 1, 1, true);
        }
        x.name(0, 1);
        x.commit();
        draft(x, bad);
        for (int i = 0; i < 100; i++) {
            x.prepare();
        }
        draft(x, good);
        for (int i = 0; i < 100; i++) {
            x.prepare();
        }
        for (int i = 0; i < 60; i++) {
            x.begin();
            x.put(1, 0, i);
            x.commit();
            x.collect();
        }
        return x.ask(11);
    }

    private static void draft(ObjectBase x, long[] pieces) {
        x.draft(0);
        for (long piece : pieces) {
            x.draft(piece);
        }
    }
}
