import com.sun.management.ThreadMXBean;
import java.lang.management.ManagementFactory;

/**
 * All calls of a run share one room. Bytes stand for it here: 512 dear calls may take no more than
 * a tenth of 7.3 million elements of eight bytes, and no call that is made again takes anything.
 */
public final class RoomTest {
    private static final Check CHECK = new Check();
    private static final ThreadMXBean THREADS = (ThreadMXBean) ManagementFactory.getThreadMXBean();
    private static final long TENTH = 7300000L * 8 / 10;

    public static void main(String[] args) {
        byte[] warm = new byte[1];
        CHECK.holds("bytes are counted", taken() > 0 && warm.length == 1);
        newObject();
        againAndAgain();
        growing();
        CHECK.finish();
    }

    private static long taken() {
        return THREADS.getThreadAllocatedBytes(Thread.currentThread().getId());
    }

    private static void newObject() {
        new LuckyTicket();
        long before = taken();
        new LuckyTicket();
        long bytes = taken() - before;
        CHECK.holds("a new object takes " + bytes, bytes < 30000);
    }

    private static void againAndAgain() {
        int[][] words = words("roll length 9 base 3;law not sum 4 and places 0 1 like 2;law unlike;");
        LuckyTicket x = new LuckyTicket();
        for (int round = 0; round < 3; round++) {
            long before = taken();
            for (int i = 0; i < 20; i++) {
                dearCalls(x, words);
            }
            long bytes = taken() - before;
            CHECK.holds("round " + round + " takes " + bytes, bytes < (round == 0 ? TENTH : 10000));
        }
        CHECK.holds("the calls were answered", x.many(0) > 0 && x.count(7) == 1);
    }

    private static void dearCalls(LuckyTicket x, int[][] words) {
        feed(x, words);
        x.roll();
        x.islands(0, 1);
        x.walk(0, 0, 19682);
        x.same(0, 5, 1);
        x.mended(0, 7);
        x.mostly(0, 2);
        x.row(0, 3, 60);
        x.halves(12, 16);
        for (int k = 0; k < 3; k++) {
            x.image(k);
            x.back(k);
        }
    }

    /** Each roll is greater than those ahead of it, and so is each image. */
    private static void growing() {
        int[][][] texts = new int[58][][];
        int n = 0;
        for (int tickets = 2; tickets <= 20000; tickets++) {
            int[][] text = textOf(tickets);
            if (text != null && n < texts.length) {
                texts[n] = text;
                n++;
            }
        }
        LuckyTicket x = new LuckyTicket();
        long before = taken();
        for (int i = 0; i < n; i++) {
            feed(x, texts[i]);
            x.roll();
            x.islands(0, 0);
            x.image(0);
            x.image(1);
            x.image(2);
        }
        long bytes = taken() - before;
        CHECK.holds("it grew " + n + " times", n == texts.length && x.count(2) > 3000);
        CHECK.holds("growing takes " + bytes, bytes < 4 * TENTH);
    }

    private static int[][] textOf(int tickets) {
        for (int base = 2; base <= 16; base++) {
            int power = base;
            for (int length = 1; length <= 12 && power <= tickets; length++) {
                if (power == tickets) {
                    return words("roll length " + length + " base " + base + ";law half;");
                }
                power *= base;
            }
        }
        return null;
    }

    private static int[][] words(String text) {
        String padded = text + " ".repeat((20 - text.length() % 20) % 20);
        int[][] words = new int[padded.length() / 20][];
        for (int i = 0; i < words.length; i++) {
            words[i] = Check.words(padded, 20 * i);
        }
        return words;
    }

    private static void feed(LuckyTicket x, int[][] words) {
        for (int[] w : words) {
            x.feed(w[0], w[1], w[2], w[3], w[4]);
        }
    }
}
