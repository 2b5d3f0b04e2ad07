/** The edges of thinking ahead: Term IV, promises 21 to 27. */
public final class AheadEdgesTest {
    private static final int NONE = LastBoat.NONE;
    private static final int RANGE = LastBoat.RANGE;
    private static final String W = "winter w 10 10 0 0;";
    private static final String BARE = "thing t 1 1 1 1 1 0;";
    private static final int[] NO_THING = { -1, 2, 4, Integer.MAX_VALUE, Integer.MIN_VALUE };
    private static final int[] NO_ORDER = { -1, 41, Integer.MAX_VALUE, Integer.MIN_VALUE };

    public static void main(String[] args) {
        Sentences.run(AheadEdgesTest.class);
    }

    private static long think(LastBoat boat, int winter, boolean isLower, int... seen) {
        Check.putRow(boat, seen);
        return boat.think(winter, isLower);
    }

    private static int after(LastBoat boat, int thing, int... seen) {
        Check.putRow(boat, seen);
        return boat.after(thing);
    }

    private static void part(LastBoat boat, int winter, long upper, long lower, int... seen) {
        Check.due("think(" + winter + "), upper", think(boat, winter, false, seen), upper);
        Check.due("think(" + winter + "), lower", think(boat, winter, true, seen), lower);
    }

    // ---- Promise 21

    static void promise21_noSignSeen() {
        Check.sentence("THE TAPE is SIGNS seen (a byte each, 48 and the SIGN, at most 6): the part of a WINTER");
        LastBoat boat = Check.told("winter v 4 5 3 2;winter w 6 0 10 0;winter z 0 0 0 10;", 3);
        part(boat, 0, 2, 5);
        part(boat, 1, 3, 5);
        part(boat, 2, 0, 1);
    }

    static void promise21_atMost6Signs() {
        Check.sentence("(a byte each, 48 and the SIGN, at most 6)");
        LastBoat boat = Check.told("winter v 5 1 9 0;winter w 5 2 8 0;", 2);
        part(boat, 0, 1, 65, 0, 0, 0, 0, 0, 0);
        part(boat, 1, 64, 65, 0, 0, 0, 0, 0, 0);
        part(boat, 0, NONE, NONE, 0, 0, 0, 0, 0, 0, 0);
        part(boat, 0, NONE, NONE, new int[900]);
    }

    static void promise21_eachByte48AndTheSign() {
        Check.sentence("(a byte each, 48 and the SIGN, at most 6)");
        LastBoat boat = Check.told("winter v 5 1 2 7;winter w 5 3 3 4;", 2);
        part(boat, 0, 1, 4, 0);
        part(boat, 0, 2, 5, 1);
        part(boat, 0, 7, 11, 2);
        for (int bad : new int[] { -1, 3, -48, 79, 80, 207 }) {
            part(boat, 0, NONE, NONE, bad);
            part(boat, 0, NONE, NONE, 0, bad);
            part(boat, 0, NONE, NONE, bad, 0, 0, 0, 0, 0);
        }
        Refused.staysButTape("think of a text", NONE, x -> { }, x -> x.think(0, true));
        Refused.staysButTape("think of 7 signs", NONE, x -> Check.put(x, "0000000"), x -> x.think(0, true));
        Refused.staysButTape("think of sign 3", NONE, x -> Check.put(x, "3"), x -> x.think(1, false));
    }

    static void promise21_noWinterShowsThem() {
        Check.sentence("NONE: it is no such row, or no WINTER shows them; RANGE (-2): no such WINTER.");
        LastBoat boat = Check.told("winter v 5 10 0 0;winter w 5 0 10 0;winter z 0 0 0 10;", 3);
        part(boat, 0, NONE, NONE, 0, 1);
        // Sign 2 is shown by a winter alone that does not come.
        part(boat, 2, NONE, NONE, 2);
        part(boat, 0, 1, 1, 0);
        part(boat, 1, 0, 1, 0);
    }

    static void promise21_aFractionByLeastNumbers() {
        Check.sentence("over the same of all WINTERS together: a fraction by least numbers.");
        LastBoat boat = Check.told("winter v 5 4 6 0;winter w 5 4 0 6;", 2);
        part(boat, 0, 1, 2, 0, 0, 0, 0, 0, 0);
        part(boat, 0, 1, 1, 1);
        part(boat, 0, 0, 1, 2);
        LastBoat one = Check.told(W, 1);
        part(one, 0, 1, 1, 0, 0, 0, 0, 0, 0);
        LastBoat far = Check.told("winter v 9 10 0 0;winter w 1 1 9 0;", 2);
        part(far, 1, 1, 9000001, 0, 0, 0, 0, 0, 0);
        part(far, 0, 9000000, 9000001, 0, 0, 0, 0, 0, 0);
    }

    static void promise21_rangeForNoSuchWinter() {
        Check.sentence("RANGE (-2): no such WINTER.");
        for (int bad : new int[] { -1, 2, 4, Integer.MAX_VALUE, Integer.MIN_VALUE }) {
            Refused.staysButTape("think(" + bad + ")", RANGE, x -> Check.put(x, "0"), x -> x.think(bad, false));
            Refused.staysButTape("think(" + bad + ") of no such row", RANGE, x -> Check.put(x, "9"), x -> x.think(bad, true));
        }
        Check.due("nothing told", new LastBoat().think(0, false), RANGE);
        Check.due("any WINTER is none", Check.told(W, 1).think(NONE, false), RANGE);
        Check.due("the last WINTER", think(Check.told("winter v 5 10 0 0;winter w 5 10 0 0;", 2), 1, true, 0), 2);
    }

    // ---- Promise 22

    static void promise22_q0To40() {
        Check.sentence("AFTER SIGNS: the q (0 .. 40) with the greatest SCORE by these parts; then the least.");
        Check.due("each one more is worth less", after(Check.told(W + "thing t 1 2 0 0 1 0;", 2), 0, 0), 0);
        Check.due("all alike: the least", after(Check.told(W + "thing t 1 2 0 0 2 0;", 2), 0, 0), 0);
        Check.due("each one more is worth more", after(Check.told(W + "thing t 1 2 0 0 3 0;", 2), 0, 0), 40);
        Check.due("one and no more", after(Check.told("weeks 1;" + W + "thing t 1 2 9 0 0 0;want t w 0 10 0 0 0;", 4), 0, 0), 1);
    }

    static void promise22_byThePartsOfTheWinters() {
        Check.sentence("AFTER SIGNS: the q (0 .. 40) with the greatest SCORE by these parts; then the least.");
        LastBoat boat = Check.told("weeks 1;winter v 9 9 1 0;winter w 1 0 1 9;thing t 1 5 6 0 0 0;want t w 0 0 0 10 0;", 5);
        Check.due("no sign: one of ten is too few", after(boat, 0), 0);
        Check.due("sign 1: still one of ten", after(boat, 0, 1), 0);
        Check.due("sign 2: it is surely w", after(boat, 0, 2), 3);
        Check.due("sign 0: it is surely v", after(boat, 0, 0), 0);
        Check.due("none shows 0 and 2", after(boat, 0, 0, 2), NONE);
    }

    static void promise22_at6SignsAndNotAt7() {
        Check.sentence("AFTER SIGNS on THE TAPE: q of a THING; NONE likewise; RANGE.");
        LastBoat boat = Check.told(W + "thing t 1 0 0 0 1 0;", 2);
        Check.due("no sign", after(boat, 0), 40);
        Check.due("6 signs", after(boat, 0, 0, 0, 0, 0, 0, 0), 40);
        Check.due("7 signs", after(boat, 0, 0, 0, 0, 0, 0, 0, 0), NONE);
        for (int bad : new int[] { -1, 3, 80, 207 }) {
            Check.due("sign " + bad, after(boat, 0, bad), NONE);
        }
        Check.due("no WINTER shows it", after(boat, 0, 1), NONE);
        Check.due("no WINTERS", after(Check.told(BARE, 1), 0), NONE);
        Refused.staysButTape("after(0) of a text", NONE, x -> { }, x -> x.after(0));
        Refused.staysButTape("after(1) of 7 signs", NONE, x -> Check.put(x, "0000000"), x -> x.after(1));
    }

    static void promise22_rangeForNoSuchThing() {
        Check.sentence("AFTER SIGNS on THE TAPE: q of a THING; NONE likewise; RANGE.");
        Check.isTrue("the last THING", after(Refused.boatWithAll(), 1, 0) >= 0);
        for (int bad : NO_THING) {
            Refused.staysButTape("after(" + bad + ")", RANGE, x -> Check.put(x, "0"), x -> x.after(bad));
            Refused.staysButTape("after(" + bad + ") of no such row", RANGE, x -> Check.put(x, "9"), x -> x.after(bad));
        }
        Check.due("nothing told", new LastBoat().after(0), RANGE);
    }

    // ---- Promise 23

    /** One is NEEDED each WEEK; PAY 5, LACK 10, LEFT 2, COST 1. */
    private static LastBoat oneAWeek(int weeks) {
        return Check.told("weeks " + weeks + ";" + W + "thing t 1 1 5 10 2 0;want t w 0 10 0 0 1;", 4);
    }

    static void promise23_f0ToWeeksLess1() {
        Check.sentence("SLEDGE: at the begin of a WEEK f (0 .. WEEKS less 1)");
        long ways = 10;
        for (int weeks = 1; weeks <= 5; weeks++) {
            ways *= 10;
            LastBoat boat = oneAWeek(weeks);
            for (int f = 0; f < weeks; f++) {
                long due = -10 * f + 5 * (weeks - f) + 2 * (20 - weeks + f) - 20 * 3;
                Check.due("WEEK " + f + " of " + weeks, boat.sledge(0, 0, f, 0, 20, 3), due * ways);
            }
            Check.due("WEEK -1", boat.sledge(0, 0, -1, 0, 20, 3), Check.FAR);
            Check.due("WEEK " + weeks + " of " + weeks, boat.sledge(0, 0, weeks, 0, 20, 3), Check.FAR);
        }
        for (int bad : new int[] { -1, 3, Integer.MAX_VALUE, Integer.MIN_VALUE }) {
            Refused.stays("sledge with f " + bad, Check.FAR, x -> x.sledge(0, 1, bad, 1, 1, 1));
        }
    }

    static void promise23_ifTheStockIsSOrFewer() {
        Check.sentence("if the STOCK is s or fewer then, m more come (1 .. 20), for c each (0 .. 99)");
        LastBoat boat = Check.told("weeks 1;" + W + "thing t 1 0 0 0 1 0;", 3);
        Check.due("a STOCK of s", boat.sledge(0, 3, 0, 3, 1, 0), 4 * 100);
        Check.due("a STOCK of fewer", boat.sledge(0, 2, 0, 3, 1, 0), 3 * 100);
        Check.due("a STOCK of more", boat.sledge(0, 4, 0, 3, 1, 0), 4 * 100);
        Check.due("none, s 0", boat.sledge(0, 0, 0, 0, 1, 0), 100);
        Check.due("one, s 0", boat.sledge(0, 1, 0, 0, 1, 0), 100);
        Check.due("40, s 40", boat.sledge(0, 40, 0, 40, 20, 0), 60 * 100);
        Check.due("40, s 39", boat.sledge(0, 40, 0, 39, 20, 0), 40 * 100);
        Check.due("then: one was given in the WEEK before", oneAWeek(2).sledge(0, 3, 1, 2, 1, 0), (10 + 2 * 2 - 3) * 1000);
        Check.due("then: it was not yet few enough", oneAWeek(2).sledge(0, 3, 0, 2, 1, 0), (10 + 2 - 3) * 1000);
    }

    static void promise23_s0To40() {
        Check.sentence("if the STOCK is s or fewer then");
        for (int bad : NO_ORDER) {
            Refused.stays("sledge with s " + bad, Check.FAR, x -> x.sledge(0, 1, 0, bad, 1, 1));
        }
    }

    static void promise23_m1To20() {
        Check.sentence("m more come (1 .. 20), for c each (0 .. 99)");
        LastBoat boat = Check.told("weeks 1;" + W + "thing t 1 0 0 0 1 0;", 3);
        Check.due("1 more", boat.sledge(0, 0, 0, 0, 1, 0), 100);
        Check.due("20 more", boat.sledge(0, 0, 0, 0, 20, 0), 20 * 100);
        for (int bad : new int[] { 0, -1, 21, Integer.MAX_VALUE, Integer.MIN_VALUE }) {
            Refused.stays("sledge with m " + bad, Check.FAR, x -> x.sledge(0, 1, 0, 1, bad, 1));
        }
    }

    static void promise23_c0To99() {
        Check.sentence("for c each (0 .. 99): the SCORE less what that costs on the mean.");
        LastBoat boat = Check.told("weeks 1;" + W + "thing t 1 0 0 0 1 0;", 3);
        Check.due("for 0 each", boat.sledge(0, 0, 0, 0, 20, 0), 20 * 100);
        Check.due("for 99 each", boat.sledge(0, 0, 0, 0, 20, 99), -98 * 20 * 100);
        Check.due("for nothing when none comes", boat.sledge(0, 1, 0, 0, 20, 99), 100);
        LastBoat half = Check.told("weeks 2;" + W + "thing t 1 0 0 0 0 0;want t w 5 5 0 0 0;", 4);
        Check.due("in half of the ways", half.sledge(0, 1, 1, 0, 2, 7), -7 * 2 * 1000 / 2);
        for (int bad : new int[] { -1, 100, Integer.MAX_VALUE, Integer.MIN_VALUE }) {
            Refused.stays("sledge with c " + bad, Check.FAR, x -> x.sledge(0, 1, 0, 1, 1, bad));
        }
    }

    static void promise23_rangeForNoSuchThingOrder() {
        Check.sentence("RANGE (-9000000000000000000), also without WINTERS.");
        Check.isTrue("the last of all", Refused.boatWithAll().sledge(1, 40, 2, 40, 20, 99) != Check.FAR);
        for (int bad : NO_THING) {
            Refused.stays("sledge of THING " + bad, Check.FAR, x -> x.sledge(bad, 1, 0, 1, 1, 1));
        }
        for (int bad : NO_ORDER) {
            Refused.stays("sledge with q " + bad, Check.FAR, x -> x.sledge(0, bad, 0, 1, 1, 1));
        }
        Check.due("without WINTERS", Check.told(BARE, 1).sledge(0, 0, 0, 0, 1, 0), Check.FAR);
    }

    // ---- Promise 24

    static void promise24_theLeastOfAlikeOnes() {
        Check.sentence("WHEN: the f with the greatest; the least of alike ones.");
        Check.due("it never comes", oneAWeek(5).when(0, 40, 0, 1, 0), 0);
        Check.due("all alike", Check.told(W + "thing t 1 0 0 0 1 0;", 2).when(0, 0, 0, 1, 0), 0);
    }

    static void promise24_theFirstAndTheLastWeek() {
        Check.sentence("WHEN: the f with the greatest; the least of alike ones.");
        for (int weeks = 1; weeks <= 5; weeks++) {
            LastBoat boat = oneAWeek(weeks);
            Check.due("at once, with none, of " + weeks, boat.when(0, 0, 0, 20, 0), 0);
            Check.due("in the last WEEK, when there is none, of " + weeks, boat.when(0, weeks - 1, 0, 1, 0), weeks - 1);
        }
    }

    static void promise24_range() {
        Check.sentence("WHEN: f; STATE: there are no WINTERS; RANGE.");
        Check.isTrue("the last of all", Refused.boatWithAll().when(1, 40, 40, 20, 99) >= 0);
        for (int bad : NO_THING) {
            Refused.stays("when of THING " + bad, RANGE, x -> x.when(bad, 1, 1, 1, 1));
        }
        for (int bad : NO_ORDER) {
            Refused.stays("when with q " + bad, RANGE, x -> x.when(0, bad, 1, 1, 1));
            Refused.stays("when with s " + bad, RANGE, x -> x.when(0, 1, bad, 1, 1));
        }
        for (int bad : new int[] { 0, -1, 21, Integer.MAX_VALUE, Integer.MIN_VALUE }) {
            Refused.stays("when with m " + bad, RANGE, x -> x.when(0, 1, 1, bad, 1));
        }
        for (int bad : new int[] { -1, 100, Integer.MAX_VALUE, Integer.MIN_VALUE }) {
            Refused.stays("when with c " + bad, RANGE, x -> x.when(0, 1, 1, 1, bad));
        }
    }

    static void promise24_boundsThatAreTaken() {
        Check.sentence("m more come (1 .. 20), for c each (0 .. 99)");
        LastBoat boat = oneAWeek(2);
        Check.due("q 0, s 0, m 1, c 0", boat.when(0, 0, 0, 1, 0), 0);
        Check.due("q 40, s 40, m 20, c 99", boat.when(0, 40, 40, 20, 99), 0);
        Check.due("m 20, c 99: it comes in both, alike", boat.when(0, 1, 1, 20, 99), 0);
    }

    static void promise24_stateWithoutWinters() {
        Check.sentence("WHEN: f; STATE: there are no WINTERS; RANGE.");
        LastBoat bare = Check.told(BARE, 1);
        Check.due("when", bare.when(0, 0, 0, 1, 0), LastBoat.STATE);
        Check.due("when, no such THING", bare.when(1, 0, 0, 1, 0), RANGE);
        Check.due("when, no such m", bare.when(0, 0, 0, 21, 0), RANGE);
    }

    // ---- Promise 25

    static void promise25_b0To10() {
        Check.sentence("SECOND: of ten years in b (0 .. 10) no boat comes in June");
        LastBoat boat = Check.told("weeks 1;" + W + "thing t 1 1 5 10 2 0;want t w 0 10 0 0 1;", 4);
        long ways = 100000;
        Check.due("in none", boat.second(0, 3, 0), (5 + 2 * 2 - 3) * ways);
        Check.due("in all", boat.second(0, 3, 10), (5 + 5 + 2 - 3) * ways);
        Check.due("in one", boat.second(0, 3, 1), (9 * (5 + 4 - 3) + (5 + 5 + 2 - 3)) * ways / 10);
        Check.due("with none in all", boat.second(0, 0, 10), -20 * ways);
        for (int bad : new int[] { -1, 11, Integer.MAX_VALUE, Integer.MIN_VALUE }) {
            Refused.stays("second with b " + bad, Check.FAR, x -> x.second(0, 1, bad));
        }
    }

    static void promise25_inNoneItIsTheScore() {
        Check.sentence("the SCORE of q on the mean: times 10 to (twice the WEEKS and 3).");
        for (int weeks = 1; weeks <= 5; weeks++) {
            LastBoat boat = oneAWeek(weeks);
            long more = Oracle.power(weeks + 2);
            for (int q : new int[] { 0, 1, 40 }) {
                Check.due("in none, " + weeks + " weeks", boat.second(0, q, 0), boat.score(0, q, NONE) * more);
            }
        }
    }

    static void promise25_q0To40() {
        Check.sentence("SECOND of a THING with q, b of ten; RANGE (-9000000000000000000), also without WINTERS.");
        LastBoat boat = Check.told("weeks 5;" + W + "thing t 1 99 0 500 99 0;want t w 0 0 0 10 3;", 4);
        Check.due("0, two winters LACK", boat.second(0, 0, 10), -500L * 30 * 10000000000000L);
        Check.due("40, two winters", boat.second(0, 40, 10), (99L * 10 - 99 * 40) * 10000000000000L);
        for (int bad : NO_ORDER) {
            Refused.stays("second with q " + bad, Check.FAR, x -> x.second(0, bad, 1));
        }
        for (int bad : NO_THING) {
            Refused.stays("second of THING " + bad, Check.FAR, x -> x.second(bad, 1, 1));
        }
        Check.due("without WINTERS", Check.told(BARE, 1).second(0, 0, 0), Check.FAR);
    }

    // ---- Promise 26

    static void promise26_q0To40() {
        Check.sentence("FOR TWO: the q (0 .. 40) with the greatest of these; then the least.");
        for (int b = 0; b <= 10; b += 5) {
            Check.due("each one more is worth less", Check.told(W + "thing t 1 2 0 0 1 0;", 2).forTwo(0, b), 0);
            Check.due("all alike: the least", Check.told(W + "thing t 1 2 0 0 2 0;", 2).forTwo(0, b), 0);
            Check.due("each one more is worth more", Check.told(W + "thing t 1 2 0 0 3 0;", 2).forTwo(0, b), 40);
        }
    }

    static void promise26_b0To10() {
        Check.sentence("FOR TWO: q; STATE; RANGE.");
        LastBoat boat = Check.told("weeks 3;" + W + "thing t 1 1 5 10 0 0;want t w 0 10 0 0 1;", 4);
        Check.due("in none: one winter", boat.forTwo(0, 0), 3);
        Check.due("in all: two winters", boat.forTwo(0, 10), 6);
        for (int bad : new int[] { -1, 11, Integer.MAX_VALUE, Integer.MIN_VALUE }) {
            Refused.stays("forTwo with b " + bad, RANGE, x -> x.forTwo(0, bad));
        }
        for (int bad : NO_THING) {
            Refused.stays("forTwo of THING " + bad, RANGE, x -> x.forTwo(bad, 1));
        }
        Check.isTrue("the last THING", Refused.boatWithAll().forTwo(1, 10) >= 0);
    }

    static void promise26_stateWithoutWinters() {
        Check.sentence("FOR TWO: q; STATE; RANGE.");
        LastBoat bare = Check.told(BARE, 1);
        Check.due("forTwo(0, 0)", bare.forTwo(0, 0), LastBoat.STATE);
        Check.due("forTwo(0, 11)", bare.forTwo(0, 11), RANGE);
        Check.due("forTwo(1, 0)", bare.forTwo(1, 0), RANGE);
    }

    // ---- Promise 27

    static void promise27_bound0To9999() {
        Check.sentence("TRUST by a bound (0 .. 9999): the set, as bits; RANGE.");
        LastBoat boat = Check.told("family a 10 1 1;", 1);
        Check.due("bound 0", boat.trust(0), 0);
        Check.due("bound 1", boat.trust(1), 1);
        Check.due("bound 9999", boat.trust(9999), 1);
        for (int bad : new int[] { -1, 10000, Integer.MAX_VALUE, Integer.MIN_VALUE }) {
            Refused.stays("trust(" + bad + ")", RANGE, x -> x.trust(bad));
        }
    }

    static void promise27_withoutFamilies() {
        Check.sentence("TRUST by a bound (0 .. 9999): the set, as bits; RANGE.");
        LastBoat boat = new LastBoat();
        Check.due("bound 0", boat.trust(0), 0);
        Check.due("bound 9999", boat.trust(9999), 0);
        Check.due("bound -1", boat.trust(-1), RANGE);
        Check.due("bound 10000", boat.trust(10000), RANGE);
    }

    static void promise27_owedTogetherAtMostABound() {
        Check.sentence("TRUST: FAMILIES are trusted, what they owe together at most a bound");
        LastBoat boat = Check.told("family a 10 300 3;family b 10 500 4;family c 10 200 2;", 3);
        Check.due("bound 199", boat.trust(199), 0);
        Check.due("bound 200", boat.trust(200), 4);
        Check.due("bound 299", boat.trust(299), 4);
        Check.due("bound 300", boat.trust(300), 1);
        Check.due("bound 500: a and c bring more than b", boat.trust(500), 5);
        Check.due("bound 700", boat.trust(700), 6);
        Check.due("bound 800", boat.trust(800), 3);
        Check.due("bound 999", boat.trust(999), 3);
        Check.due("bound 1000", boat.trust(1000), 7);
    }

    static void promise27_thenTheLeastBits() {
        Check.sentence("(what it brings, times ten, less (ten less in how many it pays) times what it would owe); then the least bits.");
        Check.due("alike ones", Check.told("family a 10 5 7;family b 10 5 7;family c 10 5 7;", 3).trust(5), 1);
        Check.due("two of them", Check.told("family a 10 5 7;family b 10 5 7;family c 10 5 7;", 3).trust(10), 3);
        Check.due("one that gains nothing", Check.told("family a 0 5 5;family b 10 5 7;", 2).trust(9999), 2);
        Check.due("one that loses", Check.told("family a 9 500 49;", 1).trust(9999), 0);
        Check.due("one that gains nothing at all", Check.told("family a 9 500 50;", 1).trust(9999), 0);
        Check.due("one that gains ten", Check.told("family a 9 500 51;", 1).trust(9999), 1);
        Check.due("one that gains one", Check.told("family a 9 9 1;", 1).trust(9999), 1);
        Check.due("one that loses one", Check.told("family a 9 11 1;", 1).trust(9999), 0);
        Check.due("a, b together as c alone", Check.told("family a 10 2 3;family b 10 3 4;family c 10 5 7;", 3).trust(5), 3);
        Check.due("c, b together as a alone", Check.told("family a 10 5 7;family b 10 3 4;family c 10 2 3;", 3).trust(5), 1);
    }

    static void promise27_sixFamilies() {
        Check.sentence("TRUST by a bound (0 .. 9999): the set, as bits; RANGE.");
        String text = "family a 10 500 500;family b 10 500 500;family c 10 500 500;family d 10 500 500;family e 10 500 500;"
            + "family f 10 500 500;";
        Check.due("all six", Check.told(text, 6).trust(3000), 63);
        Check.due("five of six", Check.told(text, 6).trust(2999), 31);
        Check.due("the sixth alone", Check.told(text.replace("10 500 500;", "0 500 0;").replace("f 0 500 0", "f 10 1 1"), 6)
            .trust(1), 32);
    }
}
