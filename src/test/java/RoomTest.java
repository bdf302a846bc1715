import com.sun.management.ThreadMXBean;
import java.lang.management.ManagementFactory;

/**
 * All calls of a run live in one room of some 600,000 objects and 7.3 million fields and elements, and none
 * may throw by itself: the dearest calls, 512 times, on sheets as full as they can be. Bytes are counted, and
 * an element or field is at least one byte.
 */
public final class RoomTest {
    private static final long MOST_BYTES = 7300000L;

    public static void main(String[] args) {
        Sheetengine x = full();
        measure("new", k -> new Sheetengine().house(0), 1);
        measure("why", k -> x.why(58).length(), 512);
        measure("digest", k -> (int) x.digest(), 512);
        measure("isSound", k -> x.isSound() ? 1 : 0, 512);
        measure("whatIf", k -> x.whatIf(0, 63, 1, 7, 8).length(), 512);
        measure("grouped", k -> x.grouped(0, 239, k % 8, 1).length(), 512);
        measure("sorted", k -> x.sorted(0, 239, k % 8, true).length(), 512);
        measure("number", k -> x.number(0, k + 2, 1), 512);
        measure("goal", k -> x.goal(0, 1, k, 7).length(), 512);
        measure("undo", k -> k % 2 == 0 ? x.undo() : x.redo(), 512);
        measure("putIn", k -> k % 2 == 0 ? x.putIn(0, false, 9) : x.takeOut(0, false, 9), 512);
        measure("fill", k -> x.fill(8, 16, 63), 512);
        measure("slip", k -> x.token(6, 9, 0, 0) + x.slip() + x.rub(1), 512);
        Check.due("sound at the end", x.isSound(), true);
        Check.end();
    }

    interface Asked {
        int answer(int k);
    }

    private static void measure(String what, Asked asked, int many) {
        ThreadMXBean bean = (ThreadMXBean) ManagementFactory.getThreadMXBean();
        long id = Thread.currentThread().getId();
        for (int k = 0; k < 4; k++) {
            asked.answer(k);
        }
        long before = bean.getThreadAllocatedBytes(id);
        long begun = System.nanoTime();
        for (int k = 0; k < many; k++) {
            asked.answer(k);
        }
        long bytes = bean.getThreadAllocatedBytes(id) - before;
        System.out.println(what + ": " + bytes / many + " bytes and " + (System.nanoTime() - begun) / 1000 / many + " microseconds a call");
        Check.due(what + " leaves room", bytes < MOST_BYTES, true);
    }

    /** 60 CELLS in the SHEET 0, each but the first reading all that stand above it, with long NUMBERS. */
    private static Sheetengine full() {
        Sheetengine x = new Sheetengine();
        x.number(0, 999983, 1);
        for (int k = 1; k < 8; k++) {
            Check.enter(x, Character.toString('a' + k) + 0, "$a$0/" + (997 - 2 * k) + "+" + k);
        }
        Check.enter(x, "a1", "sum(a$0..h0)+sum($a$0..$h$0)+least(a$0..h0)*most(a$0..h0)/look(a0,$a0..$h0,1)");
        x.fill(8, 9, 63);
        x.clear(60);
        x.clear(61);
        x.clear(62);
        x.fill(58, 63, 63);
        x.clear(59);
        return x;
    }
}
