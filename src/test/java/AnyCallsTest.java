import com.sun.management.ThreadMXBean;
import java.lang.management.ManagementFactory;
import java.util.Random;

/** Any calls with any numbers: none throws, the same calls answer the same, and none makes a new object. */
public final class AnyCallsTest {
    private static final int[] ODD = { Integer.MIN_VALUE, -1000, -3, -2, -1, 0, 1, 2, 3, 4, 5, 6, 10, 20, 21, 39, 40, 41, 60, 99,
        100, 900, 999, 1000, 9999, 10000, Integer.MAX_VALUE };
    private static final int CALLS = 34;

    public static void main(String[] args) {
        for (int seed = 0; seed < 150; seed++) {
            Check.due("the same calls, seed " + seed, many(new LastBoat(), seed), many(new LastBoat(), seed));
        }
        makesNothing();
        Check.finish("AnyCallsTest");
    }

    private static long many(LastBoat boat, int seed) {
        Random random = new Random(seed);
        long sum = 0;
        for (int i = 0; i < 512; i++) {
            int call = random.nextInt(CALLS + 6);
            long answer = call < CALLS ? call(boat, call, random) : prepare(boat, random);
            sum = sum * 31 + answer;
        }
        return sum;
    }

    private static long prepare(LastBoat boat, Random random) {
        int way = random.nextInt(4);
        if (way == 0) {
            Check.put(boat, Oracle.random(random, 5).text() + "family a 1 100 90;");
            return boat.post();
        }
        byte[] row = new byte[random.nextInt(7)];
        for (int i = 0; i < row.length; i++) {
            row[i] = (byte) (way == 1 ? random.nextInt() : 48 + random.nextInt(way == 2 ? 41 : 3));
        }
        Check.put(boat, row);
        return row.length;
    }

    private static int any(Random random) {
        return random.nextInt(3) == 0 ? ODD[random.nextInt(ODD.length)] : random.nextInt(4);
    }

    private static long call(LastBoat x, int call, Random r) {
        switch (call) {
            case 0: return x.feed(r.nextInt(), r.nextInt(), r.nextInt(), r.nextInt(), r.nextInt());
            case 1: return x.end(any(r));
            case 2: return x.post();
            case 3: return x.fault(any(r));
            case 4: return x.told(r.nextInt(100));
            case 5: return x.wants(any(r), any(r), any(r));
            case 6: return x.signs(any(r), any(r));
            case 7: return x.rule(any(r), any(r), any(r));
            case 8: return x.means(any(r), any(r), any(r), any(r));
            case 9: return x.score(any(r), any(r), any(r));
            case 10: return x.safe(any(r), any(r), any(r), r.nextBoolean());
            case 11: return x.one(any(r));
            case 12: return x.keeps(any(r), any(r));
            case 13: return x.sure(any(r), any(r));
            case 14: return x.worth(any(r), any(r), any(r));
            case 15: return x.list();
            case 16: return x.listed(any(r));
            case 17: return x.next();
            case 18: return x.instead(any(r), any(r), any(r), any(r));
            case 19: return x.think(any(r), r.nextBoolean());
            case 20: return x.after(any(r));
            case 21: return x.sledge(any(r), any(r), any(r), any(r), any(r), any(r));
            case 22: return x.when(any(r), any(r), any(r), any(r), any(r));
            case 23: return x.second(any(r), any(r), any(r));
            case 24: return x.forTwo(any(r), any(r));
            case 25: return x.trust(any(r));
            case 26: return x.begin(any(r));
            case 27: return x.go(any(r));
            case 28: return x.stock(any(r), any(r));
            case 29: return x.ran(any(r));
            case 30: return x.keep(any(r));
            case 31: return x.take(any(r));
            case 32: return x.count(any(r));
            default: return x.told(any(r));
        }
    }

    /** Twice over on an object that has a post: what the second time makes is the calls' own. */
    private static void makesNothing() {
        ThreadMXBean bean = (ThreadMXBean) ManagementFactory.getThreadMXBean();
        LastBoat boat = Oracle.random(new Random(9), 5).boat();
        long self = Thread.currentThread().getId();
        long made = 0;
        for (int turn = 0; turn < 3; turn++) {
            Random random = new Random(1);
            long before = bean.getThreadAllocatedBytes(self);
            for (int i = 0; i < 3000; i++) {
                call(boat, random.nextInt(CALLS), random);
            }
            made = bean.getThreadAllocatedBytes(self) - before;
        }
        Check.isTrue("3000 calls make " + made + " bytes", made < 3000);
    }
}
