import java.util.Random;

/** Promises 28 to 33: a run by a seed, week by week, kept and gone on from. */
public final class RunTest {
    private static final int FAR_NONE = -1000000;

    public static void main(String[] args) {
        byHand();
        againstSecondRun();
        begins();
        wrongInputs();
        slots();
        withoutThings();
        Check.finish("RunTest");
    }

    private static final class Second {
        final Oracle o;
        final int[] ordered;
        final int[][] row;
        long s;
        int winter;
        int week = 0;
        int sign = -1;

        Second(Oracle oracle, long seed, int[] order) {
            o = oracle;
            s = seed;
            ordered = order;
            row = new int[order.length][];
            for (int t = 0; t < order.length; t++) {
                row[t] = new int[] { order[t], 0, 0, 0, 0, -1 };
            }
            winter = falls(o.weight, draw());
        }

        private int draw() {
            s = (1103515245L * s + 12345) & 0x7fffffffL;
            return (int) ((s >> 16) % 10);
        }

        private static int falls(int[] chances, int drawn) {
            int sum = 0;
            for (int i = 0; i < chances.length; i++) {
                sum += chances[i];
                if (drawn < sum) {
                    return i;
                }
            }
            return -9;
        }

        void pass() {
            sign = falls(o.sign[winter], draw());
            for (int t = 0; t < row.length; t++) {
                int wanted = falls(o.want[t][winter], draw());
                // The week's sums are those of all ways where only one way is wanted.
                int[] only = new int[5];
                only[wanted] = 1;
                only[4] = o.want[t][winter][4];
                int[] kept = o.want[t][winter];
                o.want[t][winter] = only;
                Oracle.Sums sums = o.sums(t, winter, row[t][0], 1);
                o.want[t][winter] = kept;
                row[t][0] = (int) sums.left;
                row[t][1] += (int) sums.given;
                row[t][2] += (int) sums.lacked;
                row[t][3] += (int) sums.missed;
                row[t][4] += (int) sums.spoilt;
                row[t][5] = wanted;
            }
            week++;
        }

        int judged() {
            int sum = 0;
            for (int t = 0; t < row.length; t++) {
                sum += o.thing[t][2] * row[t][1] - o.thing[t][3] * row[t][2] - o.thing[t][1] * ordered[t];
                sum += week == o.weeks ? o.thing[t][4] * row[t][0] : 0;
            }
            return sum;
        }
    }

    private static void compare(LastBoat boat, Second due) {
        Check.due("WEEK", boat.ran(0), due.week);
        Check.due("SIGN", boat.ran(1), due.sign);
        Check.due("JUDGED", boat.ran(2), due.judged());
        for (int t = 0; t < due.row.length; t++) {
            for (int what = 0; what < 6; what++) {
                Check.due("stock what " + what, boat.stock(t, what), due.row[t][what]);
            }
        }
    }

    private static void byHand() {
        LastBoat boat = Check.told("weeks 2;winter a 0 10 0 0;winter b 10 0 0 10;thing t 1 2 5 7 3 2;want t b 0 0 10 0 1;", 5);
        Check.putRow(boat, 5);
        Check.due("begin", boat.begin(0), 1);
        Check.due("JUDGED at first", boat.ran(2), -10);
        Check.due("SIGN at first", boat.ran(1), LastBoat.NONE);
        Check.due("wanted at first", boat.stock(0, 5), LastBoat.NONE);
        Check.due("STOCK at first", boat.stock(0, 0), 5);
        Check.due("go(1)", boat.go(1), 1);
        Check.due("SIGN", boat.ran(1), 2);
        Check.due("wanted", boat.stock(0, 5), 2);
        Check.due("STOCK", boat.stock(0, 0), 2);
        Check.due("SPOILT", boat.stock(0, 4), 1);
        Check.due("JUDGED", boat.ran(2), 0);
        boat.rule(0, 1, 1);
        Check.due("go(1)", boat.go(1), 2);
        Check.due("MISSED by the RULE as it is now", boat.stock(0, 3), 1);
        Check.due("JUDGED with LEFT", boat.ran(2), 15 - 10 + 3);
        // 12345 over 65536 is 0; then 1406932606 over 65536 is 21468.
        LastBoat drawn = Check.told("weeks 1;winter a 1 1 1 8;winter b 9 8 1 1;", 3);
        Check.due("the first drawn is 0", drawn.begin(0), 0);
        drawn.go(1);
        Check.due("the second is 8", drawn.ran(1), 2);
    }

    private static void againstSecondRun() {
        Random random = new Random(41);
        for (int i = 0; i < 200; i++) {
            Oracle o = Oracle.random(random, 5);
            LastBoat boat = o.boat();
            o.drawRules(random, boat);
            int[] order = new int[o.things];
            for (int t = 0; t < o.things; t++) {
                order[t] = random.nextInt(random.nextBoolean() ? 6 : 41);
            }
            int seed = random.nextInt() >>> 1;
            seed = i == 0 ? 0 : i == 1 ? Integer.MAX_VALUE : seed;
            Second due = new Second(o, seed, order);
            Check.putRow(boat, order);
            Check.due("begin", boat.begin(seed), due.winter);
            compare(boat, due);
            while (due.week < o.weeks) {
                int weeks = random.nextInt(o.weeks - due.week + 1);
                for (int w = 0; w < weeks; w++) {
                    due.pass();
                }
                Check.due("go", boat.go(weeks), due.week);
                compare(boat, due);
                Check.due("go too far", boat.go(o.weeks - due.week + 1), LastBoat.RANGE);
                compare(boat, due);
                o.drawRules(random, boat);
            }
        }
    }

    private static void begins() {
        for (int what = -1; what < 4; what++) {
            Check.due("ran on a new object", new LastBoat().ran(what), FAR_NONE);
        }
        for (int slot = 0; slot < 3; slot++) {
            Check.due("take on a new object", new LastBoat().take(slot), LastBoat.STATE);
        }
        LastBoat bare = Check.told("thing t 1 1 1 1 1 0;", 1);
        Check.putRow(bare, 1);
        Check.due("no WINTERS", bare.begin(1), LastBoat.STATE);
        Check.due("no RUN", bare.go(0), LastBoat.STATE);
        LastBoat boat = Check.told("cases 1;winter w 10 10 0 0;thing t 9 1 1 1 1 0;", 3);
        int[][] bad = { {}, { 1, 1 }, { 41 }, { -1 }, { 150 } };
        for (int[] row : bad) {
            Check.putRow(boat, row);
            Check.due("no such row", boat.begin(1), LastBoat.NONE);
            Check.due("no RUN", boat.ran(0), FAR_NONE);
        }
        Check.putRow(boat, 40);
        Check.due("seed -1", boat.begin(-1), LastBoat.RANGE);
        Check.putRow(boat, 40);
        Check.due("more than the cases", boat.begin(Integer.MAX_VALUE), 0);
        boat.go(2);
        Check.putRow(boat, 41);
        Check.due("no such row", boat.begin(1), LastBoat.NONE);
        Check.due("the RUN that was stays", boat.ran(0), 2);
        Check.due("its STOCK stays", boat.stock(0, 0), 40);
        Check.putRow(boat, 3);
        Check.due("another RUN", boat.begin(1), 0);
        Check.due("its WEEK", boat.ran(0), 0);
        Check.due("its STOCK", boat.stock(0, 0), 3);
        Check.due("its SIGN", boat.ran(1), LastBoat.NONE);
    }

    private static void wrongInputs() {
        LastBoat boat = Check.told("weeks 3;winter w 10 10 0 0;thing t 9 1 1 1 1 0;", 3);
        Check.due("stock without a RUN", boat.stock(0, 0), LastBoat.NONE);
        Check.due("stock without a RUN, RANGE", boat.stock(0, 6), LastBoat.RANGE);
        Check.due("stock without a RUN, RANGE", boat.stock(1, 0), LastBoat.RANGE);
        Check.due("ran without a RUN", boat.ran(1), FAR_NONE);
        Check.due("go without a RUN", boat.go(1), LastBoat.STATE);
        Check.due("go without a RUN, RANGE", boat.go(6), LastBoat.RANGE);
        Check.due("keep without a RUN", boat.keep(0), LastBoat.STATE);
        Check.due("keep without a RUN, RANGE", boat.keep(3), LastBoat.RANGE);
        Check.putRow(boat, 5);
        boat.begin(3);
        for (int bad : new int[] { -1, 6, Integer.MAX_VALUE, Integer.MIN_VALUE }) {
            Check.due("go", boat.go(bad), LastBoat.RANGE);
            Check.due("stock: what", boat.stock(0, bad), LastBoat.RANGE);
            Check.due("stock: thing", boat.stock(bad, 0), LastBoat.RANGE);
            Check.due("ran", boat.ran(bad), FAR_NONE);
            Check.due("keep", boat.keep(bad), LastBoat.RANGE);
            Check.due("take", boat.take(bad), LastBoat.RANGE);
        }
        Check.due("ran(3)", boat.ran(3), FAR_NONE);
        Check.due("go(4) of 3", boat.go(4), LastBoat.RANGE);
        Check.due("go(3) of 3", boat.go(3), 3);
        Check.due("go(0)", boat.go(0), 3);
        Check.due("go(1) behind the last", boat.go(1), LastBoat.RANGE);
        Check.due("keep(3)", boat.keep(3), LastBoat.RANGE);
        Check.due("take(3)", boat.take(3), LastBoat.RANGE);
    }

    private static void slots() {
        Random random = new Random(42);
        for (int i = 0; i < 40; i++) {
            Oracle o = Oracle.random(random, 5);
            LastBoat boat = o.boat();
            int[] order = new int[o.things];
            for (int t = 0; t < o.things; t++) {
                order[t] = random.nextInt(15);
            }
            for (int slot = 0; slot < 3; slot++) {
                Check.due("an empty SLOT", boat.take(slot), LastBoat.STATE);
            }
            int seed = random.nextInt() >>> 1;
            Check.putRow(boat, order);
            boat.begin(seed);
            Check.due("keep at first", boat.keep(1), 0);
            int first = random.nextInt(o.weeks + 1);
            boat.go(first);
            Check.due("keep", boat.keep(2), first);
            boat.go(o.weeks - first);
            Second due = new Second(o, seed, order);
            for (int w = 0; w < o.weeks; w++) {
                due.pass();
            }
            compare(boat, due);
            Check.putRow(boat, new int[o.things]);
            boat.begin(1);
            Check.due("take", boat.take(2), first);
            boat.go(o.weeks - first);
            compare(boat, due);
            Check.due("take again", boat.take(2), first);
            Check.due("take another", boat.take(1), 0);
            compare(boat, new Second(o, seed, order));
            boat.go(o.weeks);
            compare(boat, due);
            Check.due("still an empty SLOT", boat.take(0), LastBoat.STATE);
        }
    }

    private static void withoutThings() {
        LastBoat boat = Check.told("winter w 10 0 10 0;", 1);
        Check.due("begin", boat.begin(5), 0);
        Check.due("go", boat.go(4), 4);
        Check.due("SIGN", boat.ran(1), 1);
        Check.due("JUDGED", boat.ran(2), 0);
    }
}
