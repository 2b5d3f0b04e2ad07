import java.util.Random;

/** A second reckoning of the document, way by way and one by one, slow and without any of the class's short cuts. */
final class Oracle {
    int weeks;
    int cases;
    int winters;
    int things;
    int[] weight;
    int[][] sign;
    /** ROOM, COST, PAY, LACK, LEFT, SPOIL. */
    int[][] thing;
    boolean[][] isWanted;
    int[][][] want;
    int[] helper;
    int[] helperPart;
    int[][] rule;
    int clauses;

    /** Sums over all ways, each as often as its chance of ten each week says. */
    static final class Sums {
        long given;
        long lacked;
        long missed;
        long spoilt;
        long left;
        long safe;
        long sledges;
        long[] endsWith = new long[70];
    }

    static Oracle random(Random random, int mostWeeks) {
        Oracle o = new Oracle();
        o.weeks = 1 + random.nextInt(mostWeeks);
        o.cases = random.nextInt(100);
        o.winters = 1 + random.nextInt(4);
        o.things = 1 + random.nextInt(4);
        o.weight = tenths(random, o.winters);
        o.sign = new int[o.winters][];
        for (int w = 0; w < o.winters; w++) {
            o.sign[w] = tenths(random, 3);
        }
        o.thing = new int[o.things][];
        o.isWanted = new boolean[o.things][o.winters];
        o.want = new int[o.things][o.winters][];
        o.helper = new int[o.things];
        o.helperPart = new int[o.things];
        o.rule = new int[o.things][2];
        for (int t = 0; t < o.things; t++) {
            o.drawThing(random, t);
        }
        return o;
    }

    private void drawThing(Random random, int t) {
        int spoil = random.nextInt(10);
        thing[t] = new int[] {
            1 + random.nextInt(9), random.nextInt(random.nextBoolean() ? 10 : 100), random.nextInt(100),
            random.nextInt(random.nextBoolean() ? 30 : 501), random.nextInt(random.nextBoolean() ? 10 : 100),
            spoil == 1 || random.nextInt(3) == 0 ? 0 : spoil };
        for (int w = 0; w < winters; w++) {
            isWanted[t][w] = random.nextInt(5) != 0;
            int[] chances = isWanted[t][w] ? tenths(random, 4) : new int[] { 10, 0, 0, 0 };
            int needed = isWanted[t][w] ? random.nextInt(4) : 0;
            want[t][w] = new int[] { chances[0], chances[1], chances[2], chances[3], needed };
        }
        int other = random.nextInt(things);
        helper[t] = other == t ? -1 : other;
        helperPart[t] = random.nextInt(101);
    }

    private static int[] tenths(Random random, int kinds) {
        int[] row = new int[kinds];
        for (int i = 0; i < 10; i++) {
            row[random.nextInt(kinds)]++;
        }
        return row;
    }

    void drawRules(Random random, LastBoat boat) {
        for (int t = 0; t < things; t++) {
            rule[t][0] = random.nextInt(3);
            rule[t][1] = random.nextInt(random.nextBoolean() ? 5 : 41);
            Check.due("rule", boat.rule(t, rule[t][0], rule[t][1]), 1);
        }
    }

    String text() {
        clauses = 2;
        StringBuilder text = new StringBuilder("weeks " + weeks + ";cases " + cases + ";");
        for (int w = 0; w < winters; w++) {
            text.append("winter w").append((char) ('a' + w)).append(' ').append(weight[w]);
            for (int n : sign[w]) {
                text.append(' ').append(n);
            }
            text.append(";");
            clauses++;
        }
        for (int t = 0; t < things; t++) {
            text.append("thing ").append((char) ('a' + t));
            for (int n : thing[t]) {
                text.append(' ').append(n);
            }
            text.append(";\n");
            clauses++;
        }
        for (int t = 0; t < things; t++) {
            tellWants(text, t);
        }
        return text.toString();
    }

    private void tellWants(StringBuilder text, int t) {
        for (int w = 0; w < winters; w++) {
            if (isWanted[t][w]) {
                text.append("want ").append((char) ('a' + t)).append(" w").append((char) ('a' + w));
                for (int n : want[t][w]) {
                    text.append(' ').append(n);
                }
                text.append(";");
                clauses++;
            }
        }
        if (helper[t] >= 0) {
            text.append("instead ").append((char) ('a' + helper[t])).append(' ').append((char) ('a' + t))
                .append(helperPart[t]).append(';');
            clauses++;
        }
    }

    LastBoat boat() {
        String text = text();
        return Check.told(text, clauses);
    }

    /** What a week makes of a stock: what is there then, given, lacked, missed (nothing is spoilt yet). */
    private int[] week(int t, int stock, int wanted, int needed) {
        int[] end = { stock, 0, 0, 0 };
        int wishes = 0;
        for (int i = 0; i < wanted; i++) {
            if (i >= needed) {
                wishes++;
            } else if (end[0] > 0) {
                end[0]--;
                end[1]++;
            } else {
                end[2]++;
            }
        }
        if (rule[t][0] == 2 && stock <= rule[t][1]) {
            wishes = Math.max(0, wishes - 1);
        }
        int floor = rule[t][0] == 1 ? rule[t][1] : 0;
        for (int i = 0; i < wishes; i++) {
            if (end[0] > floor) {
                end[0]--;
                end[1]++;
            } else {
                end[3]++;
            }
        }
        return end;
    }

    private int spoilt(int t, int stock) {
        int by = thing[t][5];
        return by == 0 ? 0 : (stock - stock % by) / by;
    }

    Sums sums(int t, int w, int q, int weeksToGo) {
        return sums(t, w, q, weeksToGo, -1, 0, 0);
    }

    Sums sums(int t, int w, int q, int weeksToGo, int sledgeWeek, int sledgeStock, int sledgeMany) {
        Sums sums = new Sums();
        int[] sledge = { sledgeWeek, sledgeStock, sledgeMany };
        walk(sums, t, w, 0, weeksToGo, 1, new int[] { q, 0, 0, 0, 0, 0 }, sledge);
        return sums;
    }

    /** So far: stock, given, lacked, missed, spoilt, sledges. */
    private void walk(Sums sums, int t, int w, int at, int weeksToGo, long chance, int[] far, int[] sledge) {
        if (at == weeksToGo) {
            sums.given += chance * far[1];
            sums.lacked += chance * far[2];
            sums.missed += chance * far[3];
            sums.spoilt += chance * far[4];
            sums.left += chance * far[0];
            sums.safe += far[2] == 0 ? chance : 0;
            sums.sledges += chance * far[5];
            sums.endsWith[far[0]] += chance;
            return;
        }
        boolean comes = at == sledge[0] && far[0] <= sledge[1];
        int begin = far[0] + (comes ? sledge[2] : 0);
        for (int wanted = 0; wanted < 4; wanted++) {
            int[] end = week(t, begin, wanted, want[t][w][4]);
            int gone = spoilt(t, end[0]);
            int[] then = { end[0] - gone, far[1] + end[1], far[2] + end[2], far[3] + end[3], far[4] + gone,
                far[5] + (comes ? 1 : 0) };
            if (want[t][w][wanted] > 0) {
                walk(sums, t, w, at + 1, weeksToGo, chance * want[t][w][wanted], then, sledge);
            }
        }
    }

    long money(int t, Sums sums) {
        return thing[t][2] * sums.given - thing[t][3] * sums.lacked + thing[t][4] * sums.left;
    }

    static long power(int n) {
        return n == 0 ? 1 : 10 * power(n - 1);
    }

    long score(int t, int q, int w) {
        return money(t, sums(t, w, q, weeks)) - thing[t][1] * q * power(weeks);
    }

    long scoreAny(int t, int q) {
        long sum = 0;
        for (int w = 0; w < winters; w++) {
            sum += weight[w] * score(t, q, w);
        }
        return sum;
    }

    long safeAny(int t, int q) {
        long sum = 0;
        for (int w = 0; w < winters; w++) {
            sum += weight[w] * sums(t, w, q, weeks).safe;
        }
        return sum;
    }

    long moneyAny(int t, int stock, int weeksToGo) {
        long sum = 0;
        for (int w = 0; w < winters; w++) {
            sum += weight[w] * money(t, sums(t, w, stock, weeksToGo));
        }
        return sum;
    }

    long sledge(int t, int q, int f, int s, int m, int c) {
        long sum = 0;
        for (int w = 0; w < winters; w++) {
            Sums sums = sums(t, w, q, weeks, f, s, m);
            sum += weight[w] * (money(t, sums) - sums.sledges * m * c - thing[t][1] * q * power(weeks));
        }
        return sum;
    }

    long second(int t, int q, int b) {
        long sum = 0;
        long more = power(weeks + 1);
        for (int w = 0; w < winters; w++) {
            Sums sums = sums(t, w, q, weeks);
            long first = thing[t][2] * sums.given - thing[t][3] * sums.lacked - thing[t][1] * q * power(weeks);
            sum += weight[w] * first * 10 * more;
            for (int s = 0; s < sums.endsWith.length; s++) {
                if (sums.endsWith[s] > 0) {
                    long then = (10 - b) * thing[t][4] * s * more + b * moneyAny(t, s, weeks);
                    sum += weight[w] * sums.endsWith[s] * then;
                }
            }
        }
        return sum;
    }

    long together(int t, int q, int r) {
        long sum = 0;
        for (int w = 0; w < winters; w++) {
            sum += weight[w] * pairWalk(t, w, weeks, q, r, 0);
        }
        return sum - (thing[t][1] * q + thing[helper[t]][1] * r) * power(2 * weeks + 1);
    }

    private long pairWalk(int a, int w, int weeksToGo, int stockA, int stockB, long soFar) {
        int b = helper[a];
        if (weeksToGo == 0) {
            return soFar + thing[a][4] * stockA + thing[b][4] * stockB;
        }
        long sum = 0;
        for (int wantA = 0; wantA < 4; wantA++) {
            for (int wantB = 0; wantB < 4; wantB++) {
                long chance = want[a][w][wantA] * want[b][w][wantB];
                if (chance == 0) {
                    continue;
                }
                int[] endB = week(b, stockB, wantB, want[b][w][4]);
                int[] endA = week(a, stockA, wantA, want[a][w][4]);
                int floor = rule[b][0] == 1 ? rule[b][1] : 0;
                int moved = 0;
                while (endA[2] + endA[3] > 0 && endB[0] > floor) {
                    endA[endA[2] > 0 ? 2 : 3]--;
                    endB[0]--;
                    moved++;
                }
                long gain = thing[a][2] * endA[1] - thing[a][3] * endA[2] + thing[b][2] * endB[1]
                    - thing[b][3] * endB[2] + moved * (thing[a][2] * helperPart[a] / 100);
                sum += chance * pairWalk(a, w, weeksToGo - 1, endA[0] - spoilt(a, endA[0]),
                    endB[0] - spoilt(b, endB[0]), soFar + gain);
            }
        }
        return sum;
    }
}
