import java.util.Random;

/** Promises 17 to 20: the best list, the next case, and things that do for each other. */
public final class AllThingsTest {
    public static void main(String[] args) {
        bestLists();
        listEdges();
        nextCases();
        nextEdges();
        insteadByHand();
        insteadAgainstAllWays();
        insteadWrong();
        Check.finish("AllThingsTest");
    }

    private static void bestLists() {
        Random random = new Random(21);
        for (int i = 0; i < 60; i++) {
            Oracle o = Oracle.random(random, 2);
            if (random.nextBoolean()) {
                o.cases = random.nextInt(20);
            }
            LastBoat boat = o.boat();
            o.drawRules(random, boat);
            long[][] score = new long[4][41];
            for (int t = 0; t < o.things; t++) {
                for (int q = 0; q <= 40; q++) {
                    score[t][q] = o.scoreAny(t, q);
                }
            }
            Check.due("listed ahead of list()", boat.listed(0), LastBoat.NONE);
            compareList(o, boat, score);
        }
    }

    /** Every row that fits is looked at, the least first. */
    private static void compareList(Oracle o, LastBoat boat, long[][] score) {
        int[] most = new int[4];
        int[] room = new int[4];
        for (int t = 0; t < 4; t++) {
            room[t] = t < o.things ? o.thing[t][0] : 0;
            most[t] = t < o.things ? Math.min(40, o.cases / room[t]) : 0;
        }
        int[] best = null;
        long sum = 0;
        for (int a = 0; a <= most[0]; a++) {
            for (int b = 0; b <= most[1]; b++) {
                for (int c = 0; c <= most[2]; c++) {
                    for (int d = 0; d <= most[3]; d++) {
                        long each = score[0][a] + score[1][b] + score[2][c] + score[3][d];
                        boolean fits = a * room[0] + b * room[1] + c * room[2] + d * room[3] <= o.cases;
                        if (fits && (best == null || each > sum)) {
                            best = new int[] { a, b, c, d };
                            sum = each;
                        }
                    }
                }
            }
        }
        Check.due("list", boat.list(), sum);
        for (int t = 0; t < 4; t++) {
            Check.due("listed", boat.listed(t), t < o.things ? best[t] : LastBoat.NONE);
        }
    }

    private static void listEdges() {
        LastBoat boat = new LastBoat();
        Check.due("no WINTERS", boat.list(), Check.FAR);
        Check.due("no list then", boat.listed(0), LastBoat.NONE);
        boat = Check.told("winter a 10 10 0 0;", 1);
        Check.due("no THINGS", boat.list(), 0);
        Check.due("listed", boat.listed(0), LastBoat.NONE);
        boat = Check.told("weeks 1;cases 5;winter a 10 10 0 0;thing a 1 1 0 0 2 0;thing b 1 1 0 0 2 0;", 5);
        Check.due("alike ones", boat.list(), 500);
        Check.due("the least row", boat.listed(0), 0);
        Check.due("the least row", boat.listed(1), 5);
        Check.due("listed(-1)", boat.listed(-1), LastBoat.NONE);
        boat.rule(0, 1, 1);
        Check.due("the latest list stays", boat.listed(1), 5);
        boat = Check.told("weeks 1;cases 0;winter a 10 10 0 0;thing a 1 1 0 0 2 0;", 4);
        Check.due("no cases", boat.list(), 0);
        Check.due("no cases", boat.listed(0), 0);
    }

    private static void nextCases() {
        Random random = new Random(22);
        for (int i = 0; i < 200; i++) {
            Oracle o = Oracle.random(random, 2);
            LastBoat boat = o.boat();
            o.drawRules(random, boat);
            int[] row = new int[o.things];
            int best = LastBoat.NONE;
            for (int t = 0; t < o.things; t++) {
                row[t] = random.nextInt(8) == 0 ? 40 : random.nextInt(random.nextBoolean() ? 5 : 41);
                long grows = growth(o, t, row[t]);
                if (grows > 0 && (best < 0 || grows * o.thing[best][0] > growth(o, best, row[best]) * o.thing[t][0])) {
                    best = t;
                }
            }
            Check.putRow(boat, row);
            Check.due("next", boat.next(), best);
        }
    }

    private static long growth(Oracle o, int t, int q) {
        return q == 40 ? 0 : o.scoreAny(t, q + 1) - o.scoreAny(t, q);
    }

    private static void nextEdges() {
        LastBoat boat = new LastBoat();
        Check.put(boat, "0");
        Check.due("no WINTERS", boat.next(), LastBoat.STATE);
        boat = Check.told("weeks 1;cases 1;winter a 10 10 0 0;thing a 2 1 0 0 2 0;thing b 4 1 0 0 3 0;thing c 1 3 0 0 1 0;", 6);
        Check.putRow(boat, 9, 9, 0);
        Check.due("alike by fractions, above the cases", boat.next(), 0);
        Check.putRow(boat, 40, 9, 0);
        Check.due("the first has 40", boat.next(), 1);
        Check.putRow(boat, 40, 40, 0);
        Check.due("none grows", boat.next(), LastBoat.NONE);
        int[][] bad = { {}, { 1, 1 }, { 1, 1, 1, 1 }, { 41, 0, 0 }, { 0, -1, 0 }, { 0, 0, 150 } };
        for (int[] row : bad) {
            Check.putRow(boat, row);
            Check.due("no such row", boat.next(), LastBoat.NONE);
        }
        LastBoat bare = Check.told("winter a 10 10 0 0;", 1);
        Check.due("no THINGS", bare.next(), LastBoat.NONE);
    }

    private static void insteadByHand() {
        LastBoat boat = Check.told("weeks 1;winter w 10 10 0 0;thing a 1 0 9 20 0 0;thing b 1 0 4 0 0 2;"
            + "want a w 0 0 0 10 2;want b w 0 10 0 0 0;instead b a 50;", 7);
        // b gives its own one; a has one: one need lacks, one wish is missed; b gives for both; each brings 4.
        Check.due("with 3 of b", boat.instead(0, 1, 3, 0), (9 + 4 + 4 + 4) * 1000);
        Check.due("with 2 of b the lacked one alone", boat.instead(0, 1, 2, 0), (9 + 4 + 4) * 1000);
        Check.due("with 1 of b none", boat.instead(0, 1, 1, 0), (9 + 4 - 20) * 1000);
        Check.due("GAP", boat.instead(0, 1, 3, 1), (4 + 4 + 20) * 1000);
        boat.rule(1, 1, 2);
        Check.due("b keeps two for need", boat.instead(0, 1, 3, 0), (9 + 4 - 20) * 1000);
        boat.rule(1, 1, 1);
        Check.due("b keeps one", boat.instead(0, 1, 3, 0), (9 + 4 + 4) * 1000);
        boat.rule(1, 2, 3);
        Check.due("b is dear", boat.instead(0, 1, 3, 0), (9 + 4 + 4) * 1000);
    }

    private static void insteadAgainstAllWays() {
        Random random = new Random(23);
        int looked = 0;
        for (int i = 0; i < 300; i++) {
            Oracle o = Oracle.random(random, 3);
            LastBoat boat = o.boat();
            o.drawRules(random, boat);
            int t = random.nextInt(o.things);
            int q = random.nextInt(random.nextBoolean() ? 5 : 21);
            int r = random.nextInt(random.nextBoolean() ? 5 : 21);
            if (o.helper[t] < 0) {
                Check.due("none does for it", boat.instead(t, q, r, 0), Check.FAR);
                continue;
            }
            looked++;
            long together = o.together(t, q, r);
            long apart = (o.scoreAny(t, q) + o.scoreAny(o.helper[t], r)) * Oracle.power(o.weeks);
            Check.due("TOGETHER", boat.instead(t, q, r, 0), together);
            Check.due("GAP", boat.instead(t, q, r, 1), together - apart);
        }
        Check.isTrue("some were looked at", looked > 50);
    }

    private static void insteadWrong() {
        String things = "thing a 1 1 1 1 1 0;thing b 1 1 1 1 1 0;instead a b 50;";
        LastBoat boat = Check.told("winter w 10 10 0 0;" + things, 4);
        Check.due("a has none", boat.instead(0, 0, 0, 0), Check.FAR);
        Check.isTrue("20 and 20", boat.instead(1, 20, 20, 0) != Check.FAR);
        for (int bad : new int[] { -1, 21, 40, Integer.MAX_VALUE, Integer.MIN_VALUE }) {
            Check.due("q", boat.instead(1, bad, 0, 0), Check.FAR);
            Check.due("r", boat.instead(1, 0, bad, 0), Check.FAR);
            Check.due("what", boat.instead(1, 0, 0, bad), Check.FAR);
            Check.due("thing", boat.instead(bad, 0, 0, 0), Check.FAR);
        }
        Check.due("what 2", boat.instead(1, 0, 0, 2), Check.FAR);
        Check.due("thing 2", boat.instead(2, 0, 0, 0), Check.FAR);
        Check.due("no WINTERS", Check.told(things, 3).instead(1, 0, 0, 0), Check.FAR);
    }
}
