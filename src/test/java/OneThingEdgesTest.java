/** The edges of one thing: Term II's weeks and rules, Term III's best orders, promises 10 to 16. */
public final class OneThingEdgesTest {
    private static final int NONE = LastBoat.NONE;
    private static final int RANGE = LastBoat.RANGE;
    private static final int FREE = 0;
    private static final int KEEP = 1;
    private static final int DEAR = 2;
    private static final int[] NO_THING = { -1, 2, 4, Integer.MAX_VALUE, Integer.MIN_VALUE };
    private static final int[] NO_ORDER = { -1, 41, Integer.MAX_VALUE, Integer.MIN_VALUE };
    /** NONE itself is any WINTER. */
    private static final int[] NO_WINTER = { -2, 2, 4, Integer.MAX_VALUE, Integer.MIN_VALUE };

    public static void main(String[] args) {
        Sentences.run(OneThingEdgesTest.class);
    }

    /** A WEEK in which so many are wanted in every case, and so many of them NEEDED. */
    private static LastBoat sureWeek(int wanted, int needed, int spoil) {
        String[] chances = { "0", "0", "0", "0" };
        chances[wanted] = "10";
        return Check.told("weeks 1;winter w 10 10 0 0;thing t 1 0 0 0 0 " + spoil + ";want t w "
            + String.join(" ", chances) + " " + needed + ";", 4);
    }

    /** GIVEN, LACKED, MISSED, SPOILT, LEFT of such a WEEK. */
    private static void week(String what, LastBoat boat, int q, int... due) {
        for (int i = 0; i < 5; i++) {
            Check.due(what + ", with " + q + ", means " + i, boat.means(0, q, 0, i), 10 * due[i]);
        }
    }

    private static LastBoat ruled(LastBoat boat, int kind, int k) {
        Check.due("rule(0, " + kind + ", " + k + ")", boat.rule(0, kind, k), 1);
        return boat;
    }

    // ---- Term II: a week

    static void termII_freeAtFirst() {
        Check.sentence("k 0 .. 40 (FREE at first)");
        week("FREE", sureWeek(3, 0, 0), 3, 3, 0, 0, 0, 0);
        week("FREE", sureWeek(3, 0, 0), 4, 3, 0, 0, 0, 1);
    }

    static void termII_needsAreTheLesserOfWantedAndNeeded() {
        Check.sentence("n, the lesser of w and what is NEEDED, are needs, the others wishes");
        week("2 wanted, 0 NEEDED", sureWeek(2, 0, 0), 0, 0, 0, 2, 0, 0);
        week("2 wanted, 1 NEEDED", sureWeek(2, 1, 0), 0, 0, 1, 1, 0, 0);
        week("2 wanted, 2 NEEDED", sureWeek(2, 2, 0), 0, 0, 2, 0, 0, 0);
        week("2 wanted, 3 NEEDED", sureWeek(2, 3, 0), 0, 0, 2, 0, 0, 0);
        week("0 wanted, 3 NEEDED", sureWeek(0, 3, 0), 0, 0, 0, 0, 0, 0);
    }

    static void termII_dearAtAStockOfKOrFewer() {
        Check.sentence("with DEAR, and a STOCK of k or fewer at the WEEK's begin, there is one wish fewer (0 at least).");
        for (int k : new int[] { 0, 2, 39 }) {
            LastBoat boat = ruled(sureWeek(1, 0, 0), DEAR, k);
            week("DEAR " + k + " at k", boat, k, 0, 0, 0, 0, k);
            week("DEAR " + k + " above k", boat, k + 1, 1, 0, 0, 0, k);
        }
        week("DEAR 40 at 40", ruled(sureWeek(1, 0, 0), DEAR, 40), 40, 0, 0, 0, 0, 40);
        week("DEAR 40 at 0", ruled(sureWeek(1, 0, 0), DEAR, 40), 0, 0, 0, 0, 0, 0);
    }

    static void termII_dearByTheStockAtTheWeeksBegin() {
        Check.sentence("a STOCK of k or fewer at the WEEK's begin");
        week("3 at the begin, 1 behind the needs", ruled(sureWeek(3, 2, 0), DEAR, 2), 3, 3, 0, 0, 0, 0);
        week("2 at the begin", ruled(sureWeek(3, 2, 0), DEAR, 2), 2, 2, 0, 0, 0, 0);
    }

    static void termII_dearWishes0AtLeast() {
        Check.sentence("there is one wish fewer (0 at least).");
        week("no wish", ruled(sureWeek(0, 0, 0), DEAR, 40), 5, 0, 0, 0, 0, 5);
        week("needs alone", ruled(sureWeek(1, 1, 0), DEAR, 40), 5, 1, 0, 0, 0, 4);
        week("needs that lack", ruled(sureWeek(3, 3, 0), DEAR, 40), 1, 1, 2, 0, 0, 0);
        week("one wish of one", ruled(sureWeek(1, 0, 0), DEAR, 40), 0, 0, 0, 0, 0, 0);
        week("one wish of three", ruled(sureWeek(3, 0, 0), DEAR, 40), 5, 2, 0, 0, 0, 3);
        week("the wish that is not there isn't MISSED", ruled(sureWeek(3, 0, 0), DEAR, 40), 1, 1, 0, 1, 0, 0);
    }

    static void termII_needsAsFarAsStockGoes() {
        Check.sentence("Needs are GIVEN as far as STOCK goes, those not given are LACKED");
        LastBoat boat = sureWeek(3, 3, 0);
        week("3 needs", boat, 0, 0, 3, 0, 0, 0);
        week("3 needs", boat, 2, 2, 1, 0, 0, 0);
        week("3 needs", boat, 3, 3, 0, 0, 0, 0);
        week("3 needs", boat, 4, 3, 0, 0, 0, 1);
        week("3 needs, KEEP 40", ruled(boat, KEEP, 40), 3, 3, 0, 0, 0, 0);
        week("3 needs, DEAR 40", ruled(boat, DEAR, 40), 3, 3, 0, 0, 0, 0);
    }

    static void termII_wishesAsFarAsStockGoes() {
        Check.sentence("then wishes, as far as STOCK goes (with KEEP: as far as it is above k), those not given are MISSED.");
        LastBoat boat = sureWeek(3, 1, 0);
        week("1 need, 2 wishes", boat, 0, 0, 1, 2, 0, 0);
        week("1 need, 2 wishes", boat, 1, 1, 0, 2, 0, 0);
        week("1 need, 2 wishes", boat, 2, 2, 0, 1, 0, 0);
        week("1 need, 2 wishes", boat, 3, 3, 0, 0, 0, 0);
        week("1 need, 2 wishes", boat, 40, 3, 0, 0, 0, 37);
    }

    static void termII_keepAsFarAsItIsAboveK() {
        Check.sentence("(with KEEP: as far as it is above k)");
        LastBoat boat = ruled(sureWeek(3, 1, 0), KEEP, 2);
        week("KEEP 2, below k behind the need", boat, 2, 1, 0, 2, 0, 1);
        week("KEEP 2, k behind the need", boat, 3, 1, 0, 2, 0, 2);
        week("KEEP 2, one above k", boat, 4, 2, 0, 1, 0, 2);
        week("KEEP 2, two above k", boat, 5, 3, 0, 0, 0, 2);
        week("KEEP 2, three above k", boat, 6, 3, 0, 0, 0, 3);
        week("KEEP 0 keeps none", ruled(boat, KEEP, 0), 3, 3, 0, 0, 0, 0);
        week("KEEP 40 of 40", ruled(sureWeek(3, 0, 0), KEEP, 40), 40, 0, 0, 3, 0, 40);
        week("KEEP 39 of 40", ruled(sureWeek(3, 0, 0), KEEP, 39), 40, 1, 0, 2, 0, 39);
        week("FREE with k 40", ruled(sureWeek(3, 0, 0), FREE, 40), 3, 3, 0, 0, 0, 0);
    }

    static void termII_spoiltIsTheStockBehindThatOverSpoilCut() {
        Check.sentence("Then the STOCK behind that over SPOIL (cut) are SPOILT (none with SPOIL 0).");
        LastBoat two = sureWeek(0, 0, 2);
        week("SPOIL 2", two, 0, 0, 0, 0, 0, 0);
        week("SPOIL 2", two, 1, 0, 0, 0, 0, 1);
        week("SPOIL 2", two, 2, 0, 0, 0, 1, 1);
        week("SPOIL 2", two, 3, 0, 0, 0, 1, 2);
        week("SPOIL 2", two, 40, 0, 0, 0, 20, 20);
        LastBoat nine = sureWeek(0, 0, 9);
        week("SPOIL 9", nine, 8, 0, 0, 0, 0, 8);
        week("SPOIL 9", nine, 9, 0, 0, 0, 1, 8);
        week("SPOIL 9", nine, 17, 0, 0, 0, 1, 16);
        week("SPOIL 9", nine, 18, 0, 0, 0, 2, 16);
        week("SPOIL 2, one given first", sureWeek(1, 0, 2), 2, 1, 0, 0, 0, 1);
        week("SPOIL 2, one given first", sureWeek(1, 0, 2), 3, 1, 0, 0, 1, 1);
    }

    static void termII_noneSpoiltWithSpoil0() {
        Check.sentence("(none with SPOIL 0)");
        week("SPOIL 0", sureWeek(0, 0, 0), 40, 0, 0, 0, 0, 40);
        week("SPOIL 0", sureWeek(0, 0, 0), 1, 0, 0, 0, 0, 1);
    }

    static void termII_withoutAWantNothingIsWanted() {
        Check.sentence("(A THING without a want for a WINTER: nothing is wanted in it.)");
        LastBoat boat = Check.told("weeks 1;winter v 5 10 0 0;winter w 5 10 0 0;thing t 1 0 9 9 0 2;want t v 0 0 0 10 3;", 5);
        int[] due = { 0, 0, 0, 2, 3 };
        for (int what = 0; what < 5; what++) {
            Check.due("means of what is not wanted " + what, boat.means(0, 5, 1, what), 10 * due[what]);
        }
        Check.due("it is SAFE with none", boat.safe(0, 0, 1, false), 1);
        Check.due("it is not in the other", boat.safe(0, 0, 0, false), 0);
    }

    static void termII_soManyWeeks() {
        Check.sentence("A WINTER: so many WEEKS, each by its chances, whatever came ahead.");
        long ways = 1;
        for (int weeks = 1; weeks <= 5; weeks++) {
            ways *= 10;
            LastBoat boat = Check.told("weeks " + weeks + ";winter w 10 10 0 0;thing t 1 0 1 1 0 0;want t w 0 10 0 0 1;", 4);
            Check.due("GIVEN in " + weeks, boat.means(0, 40, 0, 0), weeks * ways);
            Check.due("LEFT behind the last of " + weeks, boat.means(0, 40, 0, 4), (40 - weeks) * ways);
            Check.due("LACKED in " + weeks, boat.means(0, 0, 0, 1), weeks * ways);
            Check.due("in any WINTER times 10 more", boat.means(0, 0, NONE, 1), weeks * ways * 10);
        }
    }

    // ---- Promise 10

    static void promise10_whats0To4() {
        Check.sentence("what 0 .. 4, as whole numbers; RANGE (-9000000000000000000), also for any WINTER without WINTERS.");
        for (int what = 0; what <= 4; what++) {
            Check.isTrue("means of what " + what, Refused.boatWithAll().means(0, 1, 0, what) >= 0);
        }
        for (int bad : new int[] { -1, 5, Integer.MAX_VALUE, Integer.MIN_VALUE }) {
            Refused.stays("means(0, 1, 0, " + bad + ")", Check.FAR, x -> x.means(0, 1, 0, bad));
            Refused.stays("means(0, 1, NONE, " + bad + ")", Check.FAR, x -> x.means(0, 1, NONE, bad));
        }
    }

    static void promise10_q0To40() {
        Check.sentence("MEANS of a THING with q ordered (0 .. 40), in a WINTER");
        LastBoat boat = sureWeek(0, 0, 0);
        Check.due("LEFT of 0", boat.means(0, 0, 0, 4), 0);
        Check.due("LEFT of 40", boat.means(0, 40, 0, 4), 400);
        Check.due("LEFT of 40 in any", boat.means(0, 40, NONE, 4), 4000);
        for (int bad : NO_ORDER) {
            Refused.stays("means(0, " + bad + ", 0, 0)", Check.FAR, x -> x.means(0, bad, 0, 0));
            Refused.stays("means(0, " + bad + ", NONE, 4)", Check.FAR, x -> x.means(0, bad, NONE, 4));
        }
    }

    static void promise10_rangeForNoSuchThingOrWinter() {
        Check.sentence("MEANS of a THING with q in a WINTER (NONE: any)");
        Check.isTrue("the last THING in the last WINTER", Refused.boatWithAll().means(1, 1, 1, 0) >= 0);
        for (int bad : NO_THING) {
            Refused.stays("means(" + bad + ", 1, 0, 0)", Check.FAR, x -> x.means(bad, 1, 0, 0));
        }
        for (int bad : NO_WINTER) {
            Refused.stays("means(0, 1, " + bad + ", 0)", Check.FAR, x -> x.means(0, 1, bad, 0));
        }
    }

    static void promise10_rangeForAnyWinterWithoutWinters() {
        Check.sentence("RANGE (-9000000000000000000), also for any WINTER without WINTERS.");
        LastBoat bare = Check.told("thing t 1 1 1 1 1 0;", 1);
        for (int what = 0; what <= 4; what++) {
            Check.due("means(0, 1, NONE, " + what + ")", bare.means(0, 1, NONE, what), Check.FAR);
            Check.due("means(0, 1, 0, " + what + ")", bare.means(0, 1, 0, what), Check.FAR);
        }
    }

    static void promise10_aWinterOfWeight0() {
        Check.sentence("In any WINTER (NONE): by WEIGHTS: times 10 more.");
        LastBoat boat = Check.told("weeks 1;winter v 0 10 0 0;winter w 10 10 0 0;thing t 1 0 0 0 0 0;want t v 0 0 0 10 0;", 5);
        Check.due("in itself", boat.means(0, 3, 0, 0), 30);
        Check.due("in the other", boat.means(0, 3, 1, 0), 0);
        Check.due("in any", boat.means(0, 3, NONE, 0), 0);
    }

    // ---- Promise 11

    static void promise11_q0To40() {
        Check.sentence("SCORE: PAY times GIVEN, less LACK times LACKED, less COST times q, and LEFT times what is LEFT: on the mean likewise.");
        LastBoat boat = Check.told("weeks 1;winter w 10 10 0 0;thing t 1 99 99 500 99 0;want t w 0 0 0 10 3;", 4);
        Check.due("SCORE of 0", boat.score(0, 0, 0), -500 * 3 * 10);
        Check.due("SCORE of 0 in any", boat.score(0, 0, NONE), -500 * 3 * 100);
        Check.due("SCORE of 40", boat.score(0, 40, 0), 0);
        Check.due("SCORE of 2", boat.score(0, 2, 0), -500 * 10);
        for (int bad : NO_ORDER) {
            Refused.stays("score(0, " + bad + ", 0)", Check.FAR, x -> x.score(0, bad, 0));
            Refused.stays("score(0, " + bad + ", NONE)", Check.FAR, x -> x.score(0, bad, NONE));
        }
    }

    static void promise11_rangeForNoSuchThingOrWinter() {
        Check.sentence("SCORE of a THING with q in a WINTER (NONE: any), likewise; RANGE likewise.");
        Check.isTrue("the last THING in the last WINTER", Refused.boatWithAll().score(1, 1, 1) != Check.FAR);
        for (int bad : NO_THING) {
            Refused.stays("score(" + bad + ", 1, 0)", Check.FAR, x -> x.score(bad, 1, 0));
        }
        for (int bad : NO_WINTER) {
            Refused.stays("score(0, 1, " + bad + ")", Check.FAR, x -> x.score(0, 1, bad));
        }
        Check.due("any WINTER without WINTERS", Check.told("thing t 1 1 1 1 1 0;", 1).score(0, 0, NONE), Check.FAR);
    }

    static void promise11_theScoreMayBeMinus1AndMinus2() {
        Check.sentence("RANGE likewise.");
        LastBoat boat = Check.told("weeks 1;winter w 10 10 0 0;thing t 1 0 0 1 0 0;want t w 9 1 0 0 1;", 4);
        Check.due("SCORE of -1", boat.score(0, 0, 0), -1);
        boat = Check.told("weeks 1;winter w 10 10 0 0;thing t 1 0 0 2 0 0;want t w 9 1 0 0 1;", 4);
        Check.due("SCORE of -2", boat.score(0, 0, 0), -2);
    }

    // ---- Promise 12

    static void promise12_noneAndAllWaysAreSafe() {
        Check.sentence("SAFE: the part of all ways in which nothing is LACKED.");
        LastBoat boat = Check.told("weeks 5;winter w 10 10 0 0;thing t 1 1 1 1 1 0;want t w 0 0 0 10 3;", 4);
        for (int winter = NONE; winter <= 0; winter++) {
            Check.due("with 14 of 15, upper", boat.safe(0, 14, winter, false), 0);
            Check.due("with 14 of 15, lower", boat.safe(0, 14, winter, true), 1);
            Check.due("with 15 of 15, upper", boat.safe(0, 15, winter, false), 1);
            Check.due("with 15 of 15, lower", boat.safe(0, 15, winter, true), 1);
        }
    }

    static void promise12_byLeastNumbers() {
        Check.sentence("the upper number by least numbers (or the lower one); RANGE (-2).");
        LastBoat boat = Check.told("weeks 1;winter w 10 10 0 0;thing t 1 1 1 1 1 0;want t w 4 0 6 0 1;", 4);
        Check.due("4 of 10, upper", boat.safe(0, 0, 0, false), 2);
        Check.due("4 of 10, lower", boat.safe(0, 0, 0, true), 5);
        Check.due("40 of 100, upper", boat.safe(0, 0, NONE, false), 2);
        Check.due("40 of 100, lower", boat.safe(0, 0, NONE, true), 5);
        boat = Check.told("weeks 5;winter w 10 10 0 0;thing t 1 1 1 1 1 0;want t w 3 7 0 0 1;", 4);
        Check.due("no number divides both, upper", boat.safe(0, 0, 0, false), 243);
        Check.due("no number divides both, lower", boat.safe(0, 0, 0, true), 100000);
        Check.due("in any WINTER, lower", boat.safe(0, 0, NONE, true), 100000);
    }

    static void promise12_rangeIsMinus2() {
        Check.sentence("the upper number by least numbers (or the lower one); RANGE (-2).");
        for (boolean isLower : new boolean[] { false, true }) {
            for (int bad : NO_THING) {
                Refused.stays("safe(" + bad + ", 1, 0, " + isLower + ")", RANGE, x -> x.safe(bad, 1, 0, isLower));
            }
            for (int bad : NO_ORDER) {
                Refused.stays("safe(0, " + bad + ", 0, " + isLower + ")", RANGE, x -> x.safe(0, bad, 0, isLower));
            }
            for (int bad : NO_WINTER) {
                Refused.stays("safe(0, 1, " + bad + ", " + isLower + ")", RANGE, x -> x.safe(0, 1, bad, isLower));
            }
            LastBoat bare = Check.told("thing t 1 1 1 1 1 0;", 1);
            Check.due("without WINTERS", bare.safe(0, 1, NONE, isLower), RANGE);
            Check.due("with 40", sureWeek(1, 1, 0).safe(0, 40, 0, isLower), 1);
        }
    }

    // ---- Promise 13

    static void promise13_q0To40() {
        Check.sentence("ONE: the q (0 .. 40) with the greatest SCORE in any WINTER, by the RULE as it is; then the least.");
        Check.due("each one more is worth less", Check.told("winter w 10 10 0 0;thing t 1 2 0 0 1 0;", 2).one(0), 0);
        Check.due("all alike: the least", Check.told("winter w 10 10 0 0;thing t 1 2 0 0 2 0;", 2).one(0), 0);
        Check.due("each one more is worth more", Check.told("winter w 10 10 0 0;thing t 1 2 0 0 3 0;", 2).one(0), 40);
        LastBoat one = Check.told("weeks 1;winter w 10 10 0 0;thing t 1 2 9 0 0 0;want t w 0 10 0 0 0;", 4);
        Check.due("one and no more", one.one(0), 1);
        LastBoat boat = Check.told("weeks 1;winter w 10 10 0 0;thing t 1 2 9 0 2 0;want t w 0 0 10 0 0;", 4);
        Check.due("alike from 2 on", boat.one(0), 2);
        ruled(boat, KEEP, 40);
        Check.due("by the RULE as it is", boat.one(0), 0);
    }

    static void promise13_stateWithoutWinters() {
        Check.sentence("ONE: q; STATE: there are no WINTERS; RANGE.");
        LastBoat bare = Check.told("thing t 1 1 1 1 1 0;", 1);
        Check.due("one(0)", bare.one(0), LastBoat.STATE);
        Check.due("one(1), no such THING", bare.one(1), RANGE);
    }

    static void promise13_rangeForNoSuchThing() {
        Check.sentence("ONE: q; STATE: there are no WINTERS; RANGE.");
        Check.isTrue("the last THING", Refused.boatWithAll().one(1) >= 0);
        for (int bad : NO_THING) {
            Refused.stays("one(" + bad + ")", RANGE, x -> x.one(bad));
        }
    }

    // ---- Promise 14

    static void promise14_k0To40() {
        Check.sentence("BEST KEPT: for a q the k (0 .. 40) of KEEP with the greatest SCORE; then the least.");
        // What is left is worth 99, what is given is worth nothing: all is kept.
        LastBoat boat = Check.told("weeks 1;winter w 10 10 0 0;thing t 1 0 0 0 99 0;want t w 0 0 0 10 0;", 4);
        Check.due("of 40 all are kept", boat.keeps(0, 40), 40);
        Check.due("of 39 all are kept, the least such k", boat.keeps(0, 39), 39);
        Check.due("of 0", boat.keeps(0, 0), 0);
        LastBoat alike = Check.told("weeks 1;winter w 10 10 0 0;thing t 1 0 7 0 7 0;want t w 0 0 0 10 0;", 4);
        Check.due("all alike: the least", alike.keeps(0, 40), 0);
        LastBoat need = Check.told("weeks 2;winter w 10 10 0 0;thing t 1 0 5 50 0 0;want t w 0 0 0 10 1;", 4);
        Check.due("one for the need that comes", need.keeps(0, 3), 1);
    }

    static void promise14_q0To40() {
        Check.sentence("BEST KEPT for q: k (the RULE stays); STATE; RANGE.");
        for (int bad : NO_ORDER) {
            Refused.stays("keeps(0, " + bad + ")", RANGE, x -> x.keeps(0, bad));
        }
        for (int bad : NO_THING) {
            Refused.stays("keeps(" + bad + ", 1)", RANGE, x -> x.keeps(bad, 1));
        }
    }

    static void promise14_theRuleStays() {
        Check.sentence("BEST KEPT for q: k (the RULE stays); STATE; RANGE.");
        for (int thing = 0; thing < Refused.THINGS; thing++) {
            for (int q : new int[] { 0, 3, 40 }) {
                int of = thing;
                LastBoat boat = Refused.boatWithAll();
                Refused.stays("keeps(" + of + ", " + q + ")", boat.keeps(of, q), x -> x.keeps(of, q));
            }
        }
        LastBoat dear = ruled(sureWeek(2, 0, 0), DEAR, 3);
        LastBoat free = sureWeek(2, 0, 0);
        Check.due("whatever the RULE is", dear.keeps(0, 3), free.keeps(0, 3));
        Check.due("DEAR 3 still at 3", dear.means(0, 3, 0, 0), 10);
        Check.due("DEAR 3 still at 4", dear.means(0, 4, 0, 0), 20);
    }

    static void promise14_stateWithoutWinters() {
        Check.sentence("BEST KEPT for q: k (the RULE stays); STATE; RANGE.");
        LastBoat bare = Check.told("thing t 1 1 1 1 1 0;", 1);
        Check.due("keeps(0, 0)", bare.keeps(0, 0), LastBoat.STATE);
        Check.due("keeps(0, 40)", bare.keeps(0, 40), LastBoat.STATE);
        Check.due("keeps(0, 41)", bare.keeps(0, 41), RANGE);
        Check.due("keeps(1, 0)", bare.keeps(1, 0), RANGE);
    }

    // ---- Promise 15

    static void promise15_onePartOfNAtMost() {
        Check.sentence("SURE for one of n: the least q (0 .. 40) with which the part that isn't SAFE is 1 over n at most.");
        LastBoat half = Check.told("weeks 1;winter w 10 10 0 0;thing t 1 1 1 1 1 0;want t w 5 5 0 0 1;", 4);
        Check.due("a half is one of 2", half.sure(0, 2), 0);
        Check.due("a half is more than one of 3", half.sure(0, 3), 1);
        LastBoat hundredth = Check.told("weeks 2;winter w 10 10 0 0;thing t 1 1 1 1 1 0;want t w 9 1 0 0 1;", 4);
        Check.due("with one, a hundredth is one of 100", hundredth.sure(0, 100), 1);
        Check.due("with one, a hundredth is more than one of 101", hundredth.sure(0, 101), 2);
    }

    static void promise15_n1To999() {
        Check.sentence("SURE for one of n (1 .. 999): q; NONE: none is; STATE; RANGE.");
        LastBoat boat = sureWeek(3, 3, 0);
        Check.due("one of 1", boat.sure(0, 1), 0);
        Check.due("one of 2", boat.sure(0, 2), 3);
        Check.due("one of 999", boat.sure(0, 999), 3);
        for (int bad : new int[] { 0, -1, 1000, Integer.MAX_VALUE, Integer.MIN_VALUE }) {
            Refused.stays("sure(0, " + bad + ")", RANGE, x -> x.sure(0, bad));
        }
        for (int bad : NO_THING) {
            Refused.stays("sure(" + bad + ", 1)", RANGE, x -> x.sure(bad, 1));
        }
    }

    static void promise15_noneIsSure() {
        Check.sentence("SURE for one of n (1 .. 999): q; NONE: none is; STATE; RANGE.");
        // Half of what is there spoils each week: even 40 don't last.
        String text = "weeks 5;winter w 10 10 0 0;thing t 1 1 1 1 1 2;want t w ";
        Check.due("none is", Check.told(text + "0 0 0 10 3;", 4).sure(0, 2), NONE);
        Check.due("none must be", Check.told(text + "0 0 0 10 3;", 4).sure(0, 1), 0);
        LastBoat last = Check.told(text + "0 7 0 3 3;", 4);
        Check.due("the last one is", last.sure(0, 3), 40);
        Check.due("it is no longer", last.sure(0, 4), NONE);
    }

    static void promise15_stateWithoutWinters() {
        Check.sentence("SURE for one of n (1 .. 999): q; NONE: none is; STATE; RANGE.");
        LastBoat bare = Check.told("thing t 1 1 1 1 1 0;", 1);
        Check.due("sure(0, 1)", bare.sure(0, 1), LastBoat.STATE);
        Check.due("sure(0, 999)", bare.sure(0, 999), LastBoat.STATE);
        Check.due("sure(0, 1000)", bare.sure(0, 1000), RANGE);
        Check.due("sure(1, 1)", bare.sure(1, 1), RANGE);
    }

    // ---- Promise 16

    static void promise16_weeks0ToWeeksLess1() {
        Check.sentence("WORTH of one more in a WEEK (0 .. WEEKS less 1)");
        for (int weeks = 1; weeks <= 5; weeks++) {
            LastBoat boat = Check.told("weeks " + weeks + ";winter w 10 10 0 0;thing t 1 99 9 0 2 0;want t w 0 10 0 0 0;", 4);
            long ways = 100;
            for (int week = weeks - 1; week >= 0; week--) {
                Check.due("one to give in WEEK " + week + " of " + weeks, boat.worth(0, week, weeks - week - 1), 9 * ways);
                Check.due("one that is LEFT in WEEK " + week + " of " + weeks, boat.worth(0, week, weeks - week), 2 * ways);
                ways *= 10;
            }
            Check.due("WEEK -1", boat.worth(0, -1, 0), Check.FAR);
            Check.due("WEEK " + weeks + " of " + weeks, boat.worth(0, weeks, 0), Check.FAR);
        }
        for (int bad : new int[] { -1, 3, Integer.MAX_VALUE, Integer.MIN_VALUE }) {
            Refused.stays("worth(0, " + bad + ", 0)", Check.FAR, x -> x.worth(0, bad, 0));
        }
    }

    static void promise16_stock0To40() {
        Check.sentence("WORTH of one more with a STOCK (0 .. 40) in a WEEK; RANGE (-9000000000000000000), also without WINTERS.");
        LastBoat boat = Check.told("weeks 5;winter w 10 10 0 0;thing t 1 0 0 0 7 0;", 3);
        Check.due("with 0", boat.worth(0, 0, 0), 7 * 1000000);
        Check.due("with 40", boat.worth(0, 0, 40), 7 * 1000000);
        for (int bad : NO_ORDER) {
            Refused.stays("worth(0, 0, " + bad + ")", Check.FAR, x -> x.worth(0, 0, bad));
        }
    }

    static void promise16_byHowMuchItIsGreaterWithOneMore() {
        Check.sentence("by how much that is greater with one more: times 10 to the WEEKS from there on and one.");
        // With one more the stock is no longer dear: one goes for 1 that would be LEFT for 9.
        LastBoat boat = Check.told("weeks 1;winter w 10 10 0 0;thing t 1 0 1 0 9 0;want t w 0 10 0 0 0;", 4);
        ruled(boat, DEAR, 40);
        Check.due("with 40, one more is above k", boat.worth(0, 0, 40), (9 * 40 + 1 - 9 * 40) * 100);
        Check.due("with 39", boat.worth(0, 0, 39), 9 * 100);
        ruled(boat, DEAR, 0);
        Check.due("with 0, one more is given", boat.worth(0, 0, 0), 100);
        LastBoat spoils = Check.told("weeks 1;winter w 10 10 0 0;thing t 1 0 0 0 9 2;", 3);
        Check.due("with 1, one more makes one spoil", spoils.worth(0, 0, 1), 0);
    }

    static void promise16_rangeForNoSuchThingAndWithoutWinters() {
        Check.sentence("WORTH of one more with a STOCK (0 .. 40) in a WEEK; RANGE (-9000000000000000000), also without WINTERS.");
        Check.isTrue("the last THING", Refused.boatWithAll().worth(1, 2, 40) != Check.FAR);
        for (int bad : NO_THING) {
            Refused.stays("worth(" + bad + ", 0, 0)", Check.FAR, x -> x.worth(bad, 0, 0));
        }
        Check.due("without WINTERS", Check.told("thing t 1 1 1 1 1 0;", 1).worth(0, 0, 0), Check.FAR);
    }
}
