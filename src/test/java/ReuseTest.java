import java.util.Random;

/** An object that had other posts and other calls answers like a new one: nothing of them is left. */
public final class ReuseTest {
    public static void main(String[] args) {
        manyPosts();
        callsLeaveNothing();
        Check.finish("ReuseTest");
    }

    private static void manyPosts() {
        Random random = new Random(51);
        for (int i = 0; i < 40; i++) {
            LastBoat old = new LastBoat();
            for (int posts = 0; posts < 4; posts++) {
                Oracle o = Oracle.random(random, 3);
                String text = o.text();
                int many = random.nextInt(5);
                for (int f = 0; f < many; f++) {
                    text += "family " + (char) ('a' + f) + " 5 " + (1 + random.nextInt(50)) + " 90;";
                }
                Check.put(old, text);
                Check.due("post()", old.post(), o.clauses + many);
                compare(old, Check.told(text, o.clauses + many), o, random);
                spoil(old, o, random);
            }
        }
    }

    private static void compare(LastBoat old, LastBoat fresh, Oracle o, Random random) {
        for (int what = 0; what < 90; what++) {
            Check.due("told(" + what + ")", old.told(what), fresh.told(what));
        }
        for (int t = 0; t < o.things; t++) {
            for (int w = 0; w < o.winters; w++) {
                for (int n = 0; n < 5; n++) {
                    Check.due("wants", old.wants(t, w, n), fresh.wants(t, w, n));
                }
                Check.due("score", old.score(t, 7, w), fresh.score(t, 7, w));
            }
            Check.due("one", old.one(t), fresh.one(t));
            Check.due("forTwo", old.forTwo(t, 5), fresh.forTwo(t, 5));
            Check.due("instead", old.instead(t, 3, 4, 0), fresh.instead(t, 3, 4, 0));
        }
        Check.due("ran ahead of begin", old.ran(0), -1000000);
        Check.due("list", old.list(), fresh.list());
        for (int t = 0; t < 4; t++) {
            Check.due("listed", old.listed(t), fresh.listed(t));
        }
        Check.due("trust", old.trust(60), fresh.trust(60));
        int[] row = new int[o.things];
        Check.putRow(old, row);
        Check.putRow(fresh, row);
        int seed = random.nextInt(1000);
        Check.due("begin", old.begin(seed), fresh.begin(seed));
        for (int what = 0; what < 6; what++) {
            Check.due("stock", old.stock(0, what), fresh.stock(0, what));
        }
    }

    /** A last row of great scores and all rules, for the next post to forget. */
    private static void spoil(LastBoat old, Oracle o, Random random) {
        for (int t = 0; t < o.things; t++) {
            old.rule(t, 1 + random.nextInt(2), random.nextInt(6));
        }
        old.go(o.weeks);
        old.keep(0);
        old.list();
        Check.put(old, "weeks 5;cases 1;winter a 0 1 1 8;winter b 0 1 1 8;thing a 9 9 9 9 9 9;family a 1 1 1;#");
        Check.due("post() with a fault", old.post(), LastBoat.NONE);
    }

    private static void callsLeaveNothing() {
        Random random = new Random(52);
        for (int i = 0; i < 30; i++) {
            Oracle o = Oracle.random(random, 3);
            LastBoat boat = o.boat();
            o.drawRules(random, boat);
            int t = random.nextInt(o.things);
            long due = o.scoreAny(t, 4);
            for (int what = 0; what < 5; what++) {
                boat.means(t, 9, -1, what);
                Check.due("score behind means " + what, boat.score(t, 4, -1), due);
            }
            boat.safe(t, 9, -1, true);
            Check.due("score behind safe", boat.score(t, 4, -1), due);
            boat.safe(t, 9, 0, true);
            Check.due("means behind safe", boat.means(t, 4, 0, 4), o.sums(t, 0, 4, o.weeks).left);
            boat.sure(t, 9);
            Check.due("worth behind sure", boat.worth(t, 0, 4), o.moneyAny(t, 5, o.weeks) - o.moneyAny(t, 4, o.weeks));
            boat.sure(t, 9);
            Check.due("second behind sure", boat.second(t, 4, 3), o.second(t, 4, 3));
            boat.sure(t, 9);
            Check.due("sledge behind sure", boat.sledge(t, 4, 0, 5, 2, 3), o.sledge(t, 4, 0, 5, 2, 3));
            run(boat, o, random);
        }
    }

    /** A RUN that begins anew has nothing of the one that was. */
    private static void run(LastBoat boat, Oracle o, Random random) {
        int[] row = new int[o.things];
        for (int turn = 0; turn < 3; turn++) {
            Check.putRow(boat, row);
            boat.begin(random.nextInt(1000));
            for (int t = 0; t < o.things; t++) {
                int[] due = { row[t], 0, 0, 0, 0, -1 };
                for (int what = 0; what < 6; what++) {
                    Check.due("stock at the begin", boat.stock(t, what), due[what]);
                }
                row[t] = random.nextInt(9);
            }
            Check.due("SIGN at the begin", boat.ran(1), LastBoat.NONE);
            boat.go(o.weeks);
        }
    }
}
