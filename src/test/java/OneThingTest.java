import java.util.Random;

/** Promises 10 to 16: means, scores, safety, the best order, what is kept, what is sure, what one more is worth. */
public final class OneThingTest {
    private static final int[] FAR_OFF = { -2, 41, 5, Integer.MAX_VALUE, Integer.MIN_VALUE };

    public static void main(String[] args) {
        byHand();
        againstAllWays();
        bestOnes();
        wrongInputs();
        withoutWinters();
        greatNumbers();
        Check.finish("OneThingTest");
    }

    private static void byHand() {
        LastBoat boat = Check.told("weeks 1;winter a 3 10 0 0;winter b 7 10 0 0;thing t 1 2 5 7 3 2;"
            + "want t a 1 2 3 4 1;", 5);
        // With 2: wanted 1 leaves one (none spoils of it), wanted 3 misses one, wanted 0 spoils one.
        Check.due("GIVEN", boat.means(0, 2, 0, 0), 2 + 6 + 8);
        Check.due("LACKED", boat.means(0, 2, 0, 1), 0);
        Check.due("MISSED", boat.means(0, 2, 0, 2), 4);
        Check.due("SPOILT", boat.means(0, 2, 0, 3), 1);
        Check.due("LEFT", boat.means(0, 2, 0, 4), 1 + 2);
        Check.due("SCORE", boat.score(0, 2, 0), 5 * 16 - 2 * 2 * 10 + 3 * 3);
        Check.due("LEFT in b", boat.means(0, 2, 1, 4), 10);
        Check.due("LEFT in any", boat.means(0, 2, -1, 4), 3 * 3 + 7 * 10);
        Check.due("LACKED with none", boat.means(0, 0, 0, 1), 9);
        Check.due("SAFE with none, upper", boat.safe(0, 0, 0, false), 1);
        Check.due("SAFE with none, lower", boat.safe(0, 0, 0, true), 10);
        Check.due("SAFE with none in any, upper", boat.safe(0, 0, -1, false), 73);
        Check.due("SAFE with none in any, lower", boat.safe(0, 0, -1, true), 100);
        Check.due("SAFE with one, upper", boat.safe(0, 1, 0, false), 1);
        Check.due("SAFE with one, lower", boat.safe(0, 1, 0, true), 1);
        Check.due("SURE for one of 3", boat.sure(0, 3), 0);
        Check.due("SURE for one of 4", boat.sure(0, 4), 1);
        LastBoat spoils = Check.told("weeks 5;winter a 10 10 0 0;thing t 1 1 1 1 1 2;want t a 0 0 0 10 3;", 4);
        Check.due("none is SURE", spoils.sure(0, 999), LastBoat.NONE);
        Check.due("all are SURE for one of 1", spoils.sure(0, 1), 0);
        LastBoat last = Check.told("weeks 5;winter a 10 10 0 0;thing t 1 1 1 1 1 2;want t a 0 7 0 3 3;", 4);
        Check.due("the last that may be is SURE", last.sure(0, 3), 40);
        Check.due("SAFE of none, upper", spoils.safe(0, 40, 0, false), 0);
        Check.due("SAFE of none, lower", spoils.safe(0, 40, 0, true), 1);
    }

    private static void againstAllWays() {
        Random random = new Random(11);
        for (int i = 0; i < 60; i++) {
            Oracle o = Oracle.random(random, 5);
            LastBoat boat = o.boat();
            for (int turn = 0; turn < 5; turn++) {
                o.drawRules(random, boat);
                int t = random.nextInt(o.things);
                int q = random.nextInt(random.nextBoolean() ? 10 : 41);
                compare(o, boat, t, q, random.nextInt(o.winters));
                int week = random.nextInt(o.weeks);
                long worth = o.moneyAny(t, q + 1, o.weeks - week) - o.moneyAny(t, q, o.weeks - week);
                Check.due("worth", boat.worth(t, week, q), worth);
            }
        }
    }

    private static void compare(Oracle o, LastBoat boat, int t, int q, int w) {
        Oracle.Sums sums = o.sums(t, w, q, o.weeks);
        long[] due = { sums.given, sums.lacked, sums.missed, sums.spoilt, sums.left };
        for (int what = 0; what < 5; what++) {
            Check.due("means", boat.means(t, q, w, what), due[what]);
        }
        Check.due("score", boat.score(t, q, w), o.score(t, q, w));
        Check.due("score in any", boat.score(t, q, -1), o.scoreAny(t, q));
        fraction(boat, t, q, w, sums.safe, Oracle.power(o.weeks));
        fraction(boat, t, q, -1, o.safeAny(t, q), Oracle.power(o.weeks + 1));
        long[] any = new long[5];
        for (int v = 0; v < o.winters; v++) {
            Oracle.Sums each = o.sums(t, v, q, o.weeks);
            any[0] += o.weight[v] * each.given;
            any[1] += o.weight[v] * each.lacked;
            any[2] += o.weight[v] * each.missed;
            any[3] += o.weight[v] * each.spoilt;
            any[4] += o.weight[v] * each.left;
        }
        for (int what = 0; what < 5; what++) {
            Check.due("means in any", boat.means(t, q, -1, what), any[what]);
        }
    }

    private static void fraction(LastBoat boat, int t, int q, int w, long upper, long lower) {
        long common = java.math.BigInteger.valueOf(upper).gcd(java.math.BigInteger.valueOf(lower)).longValue();
        Check.due("safe, upper", boat.safe(t, q, w, false), upper / common);
        Check.due("safe, lower", boat.safe(t, q, w, true), lower / common);
    }

    private static void bestOnes() {
        Random random = new Random(12);
        for (int i = 0; i < 40; i++) {
            Oracle o = Oracle.random(random, 3);
            LastBoat boat = o.boat();
            o.drawRules(random, boat);
            int t = random.nextInt(o.things);
            int best = 0;
            for (int q = 1; q <= 40; q++) {
                best = o.scoreAny(t, q) > o.scoreAny(t, best) ? q : best;
            }
            Check.due("one", boat.one(t), best);
            int n = random.nextBoolean() ? 1 + random.nextInt(10) : 1 + random.nextInt(999);
            Check.due("sure", boat.sure(t, n), sure(o, t, n));
            int q = random.nextInt(random.nextBoolean() ? 8 : 41);
            long before = boat.score(t, q, -1);
            Check.due("keeps", boat.keeps(t, q), kept(o, t, q));
            Check.due("the RULE stays", boat.score(t, q, -1), before);
        }
    }

    private static int sure(Oracle o, int t, int n) {
        long all = Oracle.power(o.weeks + 1);
        for (int q = 0; q <= 40; q++) {
            if ((all - o.safeAny(t, q)) * n <= all) {
                return q;
            }
        }
        return LastBoat.NONE;
    }

    private static int kept(Oracle o, int t, int q) {
        int[] rule = o.rule[t];
        int best = 0;
        long most = Long.MIN_VALUE;
        for (int k = 0; k <= 40; k++) {
            o.rule[t] = new int[] { 1, k };
            if (o.scoreAny(t, q) > most) {
                most = o.scoreAny(t, q);
                best = k;
            }
        }
        o.rule[t] = rule;
        return best;
    }

    private static void wrongInputs() {
        LastBoat boat = Check.told("weeks 2;winter a 10 10 0 0;thing t 1 1 1 1 1 0;", 3);
        Check.due("q 40", boat.means(0, 40, 0, 4), 4000);
        for (int bad : FAR_OFF) {
            Check.due("means: thing", boat.means(bad, 0, 0, 0), Check.FAR);
            Check.due("means: winter", boat.means(0, 0, bad, 0), Check.FAR);
            Check.due("means: what", boat.means(0, 0, 0, bad), Check.FAR);
            Check.due("score: thing", boat.score(bad, 0, 0), Check.FAR);
            Check.due("score: winter", boat.score(0, 0, bad), Check.FAR);
            Check.due("safe: thing", boat.safe(bad, 0, 0, true), LastBoat.RANGE);
            Check.due("safe: winter", boat.safe(0, 0, bad, true), LastBoat.RANGE);
            Check.due("one: thing", boat.one(bad), LastBoat.RANGE);
            Check.due("keeps: thing", boat.keeps(bad, 0), LastBoat.RANGE);
            Check.due("sure: thing", boat.sure(bad, 1), LastBoat.RANGE);
            Check.due("worth: thing", boat.worth(bad, 0, 0), Check.FAR);
            Check.due("worth: week", boat.worth(0, bad, 0), Check.FAR);
        }
        for (int bad : new int[] { -1, 41, Integer.MAX_VALUE, Integer.MIN_VALUE }) {
            Check.due("means: q", boat.means(0, bad, 0, 0), Check.FAR);
            Check.due("score: q", boat.score(0, bad, -1), Check.FAR);
            Check.due("safe: q", boat.safe(0, bad, 0, false), LastBoat.RANGE);
            Check.due("keeps: q", boat.keeps(0, bad), LastBoat.RANGE);
            Check.due("worth: stock", boat.worth(0, 0, bad), Check.FAR);
        }
        Check.due("means: what -1", boat.means(0, 0, 0, -1), Check.FAR);
        Check.due("sure: n 0", boat.sure(0, 0), LastBoat.RANGE);
        Check.due("sure: n 1000", boat.sure(0, 1000), LastBoat.RANGE);
        Check.due("worth: week 2 of 2", boat.worth(0, 2, 0), Check.FAR);
        Check.due("worth: week -1", boat.worth(0, -1, 0), Check.FAR);
    }

    private static void withoutWinters() {
        LastBoat boat = Check.told("thing t 1 1 1 1 1 0;", 1);
        Check.due("means", boat.means(0, 0, -1, 0), Check.FAR);
        Check.due("score", boat.score(0, 0, -1), Check.FAR);
        Check.due("safe", boat.safe(0, 0, -1, true), LastBoat.RANGE);
        Check.due("one", boat.one(0), LastBoat.STATE);
        Check.due("keeps", boat.keeps(0, 1), LastBoat.STATE);
        Check.due("sure", boat.sure(0, 1), LastBoat.STATE);
        Check.due("worth", boat.worth(0, 0, 0), Check.FAR);
        Check.due("one: no such THING", boat.one(1), LastBoat.RANGE);
        Check.due("keeps: q", boat.keeps(0, 41), LastBoat.RANGE);
        Check.due("sure: n", boat.sure(0, 0), LastBoat.RANGE);
    }

    private static void greatNumbers() {
        LastBoat boat = Check.told("weeks 5;winter a 10 10 0 0;thing t 9 99 99 500 99 0;want t a 0 0 0 10 3;", 4);
        Check.due("nothing ordered", boat.score(0, 0, -1), -500L * 15 * 1000000);
        Check.due("all ordered", boat.score(0, 40, -1), (99L * 15 - 99 * 40 + 99 * 25) * 1000000);
        Check.due("two winters", boat.second(0, 0, 10), -500L * 30 * 10000000000000L);
    }
}
