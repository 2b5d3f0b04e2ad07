import java.math.BigInteger;
import java.util.Random;

/** Promises 21 to 27: what signs tell, the sledge, a second winter, whom to trust. */
public final class AheadTest {
    public static void main(String[] args) {
        thinks();
        thinkEdges();
        sledges();
        sledgeByHand();
        sledgeWrong();
        seconds();
        secondWrong();
        trusts();
        trustEdges();
        Check.finish("AheadTest");
    }

    private static void thinks() {
        Random random = new Random(31);
        for (int i = 0; i < 80; i++) {
            Oracle o = Oracle.random(random, 2);
            LastBoat boat = o.boat();
            o.drawRules(random, boat);
            int[] seen = new int[random.nextInt(7)];
            for (int s = 0; s < seen.length; s++) {
                seen[s] = random.nextInt(3);
            }
            long[] part = new long[o.winters];
            long all = 0;
            for (int w = 0; w < o.winters; w++) {
                part[w] = o.weight[w];
                for (int sign : seen) {
                    part[w] *= o.sign[w][sign];
                }
                all += part[w];
            }
            compareParts(boat, seen, part, all);
            int t = random.nextInt(o.things);
            Check.putRow(boat, seen);
            Check.due("after", boat.after(t), all == 0 ? LastBoat.NONE : bestAfter(o, t, part));
        }
    }

    private static void compareParts(LastBoat boat, int[] seen, long[] part, long all) {
        for (int w = 0; w < part.length; w++) {
            long common = BigInteger.valueOf(part[w]).gcd(BigInteger.valueOf(all)).longValue();
            Check.putRow(boat, seen);
            Check.due("think, upper", boat.think(w, false), all == 0 ? LastBoat.NONE : part[w] / common);
            Check.putRow(boat, seen);
            Check.due("think, lower", boat.think(w, true), all == 0 ? LastBoat.NONE : all / common);
        }
    }

    private static int bestAfter(Oracle o, int t, long[] part) {
        int best = 0;
        long most = Long.MIN_VALUE;
        for (int q = 0; q <= 40; q++) {
            long sum = 0;
            for (int w = 0; w < o.winters; w++) {
                sum += part[w] * o.score(t, q, w);
            }
            if (sum > most) {
                best = q;
                most = sum;
            }
        }
        return best;
    }

    private static void thinkEdges() {
        LastBoat boat = Check.told("winter a 4 10 0 0;winter b 6 5 5 0;thing t 1 1 1 1 1 0;", 3);
        int[][] bad = { { 3 }, { -1 }, { 0, 0, 0, 0, 0, 0, 0 }, { 0, 150 }, { 2 }, { 0, 2 } };
        for (int[] row : bad) {
            Check.putRow(boat, row);
            Check.due("think of no such row", boat.think(0, false), LastBoat.NONE);
            Check.putRow(boat, row);
            Check.due("after no such row", boat.after(0), LastBoat.NONE);
        }
        Check.putRow(boat, 1);
        Check.due("part of none, upper", boat.think(0, false), 0);
        Check.putRow(boat, 1);
        Check.due("part of none, lower", boat.think(0, true), 1);
        Check.putRow(boat, 0, 0, 0, 0, 0, 0);
        Check.due("six signs", boat.think(1, true), 4 * 64 + 6 == 262 ? 131 : 0);
        for (int winter : new int[] { -1, 2, 4, Integer.MAX_VALUE, Integer.MIN_VALUE }) {
            Check.due("no such WINTER", boat.think(winter, false), LastBoat.RANGE);
            Check.due("no such THING", boat.after(winter), LastBoat.RANGE);
        }
        Check.due("after(1)", boat.after(1), LastBoat.RANGE);
        Check.due("after without WINTERS", Check.told("thing t 1 1 1 1 1 0;", 1).after(0), LastBoat.NONE);
    }

    private static void sledges() {
        Random random = new Random(32);
        for (int i = 0; i < 60; i++) {
            Oracle o = Oracle.random(random, 4);
            LastBoat boat = o.boat();
            o.drawRules(random, boat);
            int t = random.nextInt(o.things);
            int q = random.nextInt(random.nextBoolean() ? 6 : 41);
            int s = random.nextInt(random.nextBoolean() ? 6 : 41);
            int m = 1 + random.nextInt(random.nextBoolean() ? 3 : 20);
            int c = random.nextInt(100);
            int best = 0;
            for (int f = 0; f < o.weeks; f++) {
                Check.due("sledge", boat.sledge(t, q, f, s, m, c), o.sledge(t, q, f, s, m, c));
                best = o.sledge(t, q, f, s, m, c) > o.sledge(t, q, best, s, m, c) ? f : best;
            }
            Check.due("when", boat.when(t, q, s, m, c), best);
        }
    }

    private static void sledgeByHand() {
        LastBoat boat = Check.told("weeks 2;winter w 10 10 0 0;thing t 1 1 5 10 2 0;want t w 0 10 0 0 1;", 4);
        Check.due("comes at once", boat.sledge(0, 0, 0, 0, 3, 4), (5 * 2 + 2 - 12) * 1000);
        Check.due("comes a week late", boat.sledge(0, 0, 1, 0, 3, 4), (5 - 10 + 2 * 2 - 12) * 1000);
        Check.due("does not come", boat.sledge(0, 1, 0, 0, 3, 4), (5 - 10 - 1) * 1000);
        Check.due("comes to the last one", boat.sledge(0, 1, 1, 0, 1, 4), (5 + 5 - 1 - 4) * 1000);
        Check.due("WHEN", boat.when(0, 1, 0, 1, 4), 1);
        Check.due("WHEN of alike ones", boat.when(0, 40, 0, 1, 4), 0);
        boat.rule(0, 2, 3);
        Check.due("what came counts at the WEEK's begin", boat.sledge(0, 0, 0, 0, 20, 0), (10 + 36) * 1000);
    }

    private static void sledgeWrong() {
        String thing = "weeks 2;thing t 1 1 5 10 2 0;";
        LastBoat boat = Check.told(thing + "winter w 10 10 0 0;", 3);
        int[] good = { 0, 40, 1, 40, 20, 99 };
        int[][] bad = { { -1, 1 }, { -1, 41 }, { -1, 2 }, { -1, 41 }, { 0, 21 }, { -1, 100 } };
        Check.isTrue("good", boat.sledge(0, 40, 1, 40, 20, 99) != Check.FAR);
        Check.isTrue("good", boat.when(0, 40, 40, 20, 99) >= 0);
        for (int i = 0; i < 6; i++) {
            for (int value : new int[] { bad[i][0], bad[i][1], Integer.MAX_VALUE, Integer.MIN_VALUE }) {
                int[] a = good.clone();
                a[i] = value;
                Check.due("sledge", boat.sledge(a[0], a[1], a[2], a[3], a[4], a[5]), Check.FAR);
                if (i != 2) {
                    Check.due("when", boat.when(a[0], a[1], a[3], a[4], a[5]), LastBoat.RANGE);
                }
            }
        }
        LastBoat bare = Check.told(thing, 2);
        Check.due("sledge without WINTERS", bare.sledge(0, 0, 0, 0, 1, 0), Check.FAR);
        Check.due("when without WINTERS", bare.when(0, 0, 0, 1, 0), LastBoat.STATE);
        Check.due("when without WINTERS, RANGE", bare.when(1, 0, 0, 1, 0), LastBoat.RANGE);
    }

    private static void seconds() {
        Random random = new Random(33);
        for (int i = 0; i < 40; i++) {
            Oracle o = Oracle.random(random, 3);
            LastBoat boat = o.boat();
            o.drawRules(random, boat);
            int t = random.nextInt(o.things);
            int b = random.nextInt(11);
            int told = boat.forTwo(t, b);
            int best = 0;
            long most = Long.MIN_VALUE;
            for (int q = 0; q <= 40; q++) {
                long due = o.second(t, q, b);
                Check.due("second", boat.second(t, q, b), due);
                best = due > most ? q : best;
                most = Math.max(most, due);
            }
            Check.due("forTwo", told, best);
            int q = random.nextInt(41);
            Check.due("no second winter", boat.second(t, q, 0), o.scoreAny(t, q) * Oracle.power(o.weeks + 2));
        }
    }

    private static void secondWrong() {
        LastBoat boat = Check.told("thing t 1 1 5 10 2 0;winter w 10 10 0 0;", 2);
        for (int bad : new int[] { -1, 41, Integer.MAX_VALUE, Integer.MIN_VALUE }) {
            Check.due("second: thing", boat.second(bad, 0, 0), Check.FAR);
            Check.due("second: q", boat.second(0, bad, 0), Check.FAR);
            Check.due("second: b", boat.second(0, 0, bad), Check.FAR);
            Check.due("forTwo: thing", boat.forTwo(bad, 0), LastBoat.RANGE);
            Check.due("forTwo: b", boat.forTwo(0, bad), LastBoat.RANGE);
        }
        Check.due("second: b 11", boat.second(0, 0, 11), Check.FAR);
        Check.due("forTwo: b 11", boat.forTwo(0, 11), LastBoat.RANGE);
        LastBoat bare = Check.told("thing t 1 1 5 10 2 0;", 1);
        Check.due("second without WINTERS", bare.second(0, 0, 0), Check.FAR);
        Check.due("forTwo without WINTERS", bare.forTwo(0, 0), LastBoat.STATE);
        Check.due("forTwo without WINTERS, RANGE", bare.forTwo(0, 11), LastBoat.RANGE);
    }

    private static void trusts() {
        Random random = new Random(34);
        for (int i = 0; i < 200; i++) {
            int many = random.nextInt(7);
            int[][] family = new int[many][];
            StringBuilder text = new StringBuilder();
            for (int f = 0; f < many; f++) {
                family[f] = new int[] { random.nextInt(11), 1 + random.nextInt(random.nextBoolean() ? 9 : 500),
                    random.nextInt(random.nextBoolean() ? 9 : 501) };
                text.append("family ").append((char) ('a' + f)).append(' ').append(family[f][0]).append(' ')
                    .append(family[f][1]).append(' ').append(family[f][2]).append(';');
            }
            LastBoat boat = Check.told(text.toString(), many);
            int bound = random.nextInt(random.nextBoolean() ? 300 : 10000);
            Check.due("trust", boat.trust(bound), bestSet(family, bound, many - 1, 0, new long[] { Long.MIN_VALUE, 0 }, 0, 0));
        }
    }

    /** The sets by their bits, the least first. */
    private static int bestSet(int[][] family, int bound, int f, int set, long[] best, long gain, int owed) {
        if (f < 0) {
            if (owed <= bound && gain > best[0]) {
                best[0] = gain;
                best[1] = set;
            }
            return (int) best[1];
        }
        bestSet(family, bound, f - 1, set, best, gain, owed);
        long more = family[f][2] * 10 - (10 - family[f][0]) * family[f][1];
        return bestSet(family, bound, f - 1, set | 1 << f, best, gain + more, owed + family[f][1]);
    }

    private static void trustEdges() {
        LastBoat boat = Check.told("family a 10 10 1;family b 10 10 1;family c 10 1 0;family d 0 1 0;", 4);
        Check.due("alike ones: the least bits", boat.trust(10), 1);
        Check.due("none that brings nothing", boat.trust(9999), 3);
        Check.due("bound 0", boat.trust(0), 0);
        Check.due("bound 9", boat.trust(9), 0);
        Check.due("bound -1", boat.trust(-1), LastBoat.RANGE);
        Check.due("bound 10000", boat.trust(10000), LastBoat.RANGE);
        Check.due("no FAMILIES", new LastBoat().trust(9999), 0);
        Check.due("the least gain", Check.told("family a 9 9 1;", 1).trust(9), 1);
        Check.due("no gain", Check.told("family a 9 10 1;", 1).trust(10), 0);
    }
}
