/** The edges of all things: Term III's lists, next cases and things that do instead, promises 17 to 20. */
public final class AllThingsEdgesTest {
    private static final int NONE = LastBoat.NONE;
    private static final String W = "winter w 10 10 0 0;";

    public static void main(String[] args) {
        Sentences.run(AllThingsEdgesTest.class);
    }

    private static void listed(LastBoat boat, int... due) {
        for (int t = 0; t < due.length; t++) {
            Check.due("listed(" + t + ")", boat.listed(t), due[t]);
        }
    }

    // ---- Promise 17

    static void promise17_roomTimesQTogetherCasesAtMost() {
        Check.sentence("LIST: a q (0 .. 40) for each THING, ROOM times q together cases at most, with the greatest sum of SCORES; then the least row.");
        String things = W + "thing a 3 1 0 0 3 0;thing b 4 1 0 0 4 0;";
        LastBoat boat = Check.told("weeks 1;cases 7;" + things, 5);
        Check.due("just as many cases", boat.list(), (2 + 3) * 100);
        listed(boat, 1, 1);
        boat = Check.told("weeks 1;cases 6;" + things, 5);
        Check.due("one case fewer", boat.list(), 2 * 2 * 100);
        listed(boat, 2, 0);
        boat = Check.told("weeks 1;cases 8;" + things, 5);
        Check.due("one case more", boat.list(), 2 * 3 * 100);
        listed(boat, 0, 2);
    }

    static void promise17_casesFrom0To99() {
        Check.sentence("ROOM times q together cases at most");
        LastBoat boat = Check.told("weeks 1;cases 0;" + W + "thing a 1 0 0 0 1 0;", 4);
        Check.due("no cases", boat.list(), 0);
        listed(boat, 0, NONE);
        boat = Check.told("weeks 1;cases 8;" + W + "thing a 9 0 0 0 1 0;", 4);
        Check.due("one case too few", boat.list(), 0);
        listed(boat, 0);
        boat = Check.told("weeks 1;cases 9;" + W + "thing a 9 0 0 0 1 0;", 4);
        Check.due("just enough for one", boat.list(), 100);
        listed(boat, 1);
        boat = Check.told("weeks 1;cases 99;" + W + "thing a 9 0 0 0 1 0;thing b 9 0 0 0 2 0;", 5);
        Check.due("99 cases", boat.list(), 22 * 100);
        listed(boat, 0, 11);
    }

    static void promise17_q0To40OfEachThing() {
        Check.sentence("LIST: a q (0 .. 40) for each THING");
        LastBoat boat = Check.told("weeks 1;cases 99;" + W + "thing a 1 0 0 0 5 0;thing b 1 0 0 0 1 0;", 5);
        Check.due("40 of each, and 19 cases are empty", boat.list(), (200 + 40) * 100);
        listed(boat, 40, 40);
        boat = Check.told("weeks 1;cases 40;" + W + "thing a 1 0 0 0 5 0;thing b 1 0 0 0 1 0;", 5);
        Check.due("40 cases", boat.list(), 200 * 100);
        listed(boat, 40, 0);
        boat = Check.told("weeks 1;cases 41;" + W + "thing a 1 0 0 0 5 0;thing b 1 0 0 0 1 0;", 5);
        Check.due("41 cases", boat.list(), 201 * 100);
        listed(boat, 40, 1);
    }

    static void promise17_thenTheLeastRow() {
        Check.sentence("with the greatest sum of SCORES; then the least row.");
        LastBoat boat = Check.told("weeks 1;cases 5;" + W + "thing a 1 0 0 0 1 0;thing b 1 0 0 0 1 0;thing c 1 0 0 0 1 0;", 6);
        Check.due("alike", boat.list(), 500);
        listed(boat, 0, 0, 5);
        boat = Check.told("weeks 1;cases 5;" + W + "thing a 1 3 0 0 3 0;thing b 1 3 0 0 3 0;", 5);
        Check.due("nothing is worth more than nothing", boat.list(), 0);
        listed(boat, 0, 0);
    }

    static void promise17_aSumBelow0() {
        Check.sentence("with the greatest sum of SCORES");
        LastBoat boat = Check.told("weeks 1;cases 2;" + W + "thing a 1 0 0 500 0 0;want a w 0 0 0 10 3;", 5);
        Check.due("one is LACKED in each case", boat.list(), -500 * 100);
        listed(boat, 2);
        boat = Check.told("weeks 1;cases 0;" + W + "thing a 1 0 0 1 0 0;want a w 0 10 0 0 1;", 5);
        Check.due("all are LACKED", boat.list(), -100);
        listed(boat, 0);
    }

    static void promise17_withoutThings() {
        Check.sentence("LIST: the sum of SCORES (times 10 to the WEEKS and one)");
        LastBoat boat = Check.told(W, 1);
        Check.due("the sum of none", boat.list(), 0);
        listed(boat, NONE, NONE, NONE, NONE);
        Check.put(boat, W + "thing a 1 0 0 0 9 0;thing b 1 0 0 0 9 0;");
        Check.due("post() of two THINGS", boat.post(), 3);
        Check.isTrue("the sum of two", boat.list() > 0);
        Check.put(boat, W);
        Check.due("post() without THINGS again", boat.post(), 1);
        Check.due("the sum of none again", boat.list(), 0);
        Check.put(boat, W + "thing a 9 1 0 0 0 0;");
        Check.due("post() of one THING", boat.post(), 2);
        Check.due("the sum of one that none wants", boat.list(), 0);
        listed(boat, 0, NONE, NONE, NONE);
    }

    static void promise17_rangeWithoutWinters() {
        Check.sentence("RANGE (-9000000000000000000): there are no WINTERS.");
        Check.due("nothing told", new LastBoat().list(), Check.FAR);
        LastBoat bare = Check.told("thing t 1 1 1 1 1 0;", 1);
        Check.due("THINGS without WINTERS", bare.list(), Check.FAR);
        listed(bare, NONE);
    }

    // ---- Promise 18

    static void promise18_noneAheadOfAnyList() {
        Check.sentence("How much of a THING is on the latest list(); NONE: none such, or there was none.");
        LastBoat boat = Check.told("cases 4;" + W + "thing t 1 0 0 0 1 0;", 3);
        listed(boat, NONE, NONE);
        boat.list();
        listed(boat, 4, NONE);
        Check.put(boat, "cases 4;" + W + "thing t 1 0 0 0 1 0;");
        Check.due("post()", boat.post(), 3);
        listed(boat, NONE, NONE);
    }

    static void promise18_noneForNoSuchThing() {
        Check.sentence("NONE: none such, or there was none.");
        Check.isTrue("the last THING", Refused.boatWithAll().listed(1) >= 0);
        for (int bad : new int[] { -1, 2, 4, Integer.MAX_VALUE, Integer.MIN_VALUE }) {
            Refused.stays("listed(" + bad + ")", NONE, x -> x.listed(bad));
        }
        LastBoat four = Check.told("cases 1;" + W + "thing a 1 0 0 0 1 0;thing b 1 0 0 0 1 0;thing c 1 0 0 0 1 0;thing d 1 0 0 0 1 0;", 6);
        four.list();
        listed(four, 0, 0, 0, 1, NONE);
    }

    static void promise18_theLatestListStays() {
        Check.sentence("How much of a THING is on the latest list()");
        LastBoat boat = Check.told("weeks 1;cases 40;" + W + "thing t 1 1 9 0 0 0;want t w 0 0 0 10 0;", 5);
        boat.list();
        listed(boat, 3);
        boat.rule(0, 1, 40);
        boat.one(0);
        boat.keeps(0, 3);
        Check.putRow(boat, 2);
        boat.next();
        listed(boat, 3);
        boat.list();
        listed(boat, 0);
    }

    // ---- Promise 19

    private static int next(LastBoat boat, int... row) {
        Check.putRow(boat, row);
        return boat.next();
    }

    static void promise19_aByteEachThing48AndQ() {
        Check.sentence("THE TAPE is a LIST (a byte each THING: 48 and q; it may be more than the cases): NEXT CASE");
        LastBoat boat = Check.told("weeks 1;cases 1;" + W + "thing t 1 0 0 0 1 0;", 4);
        Check.due("q 0, byte 48", next(boat, 0), 0);
        Check.due("q 39, byte 87", next(boat, 39), 0);
        Check.due("q 40, byte 88: it can't grow", next(boat, 40), NONE);
        Check.due("byte 47", next(boat, -1), NONE);
        Check.due("byte 89", next(boat, 41), NONE);
        Check.due("byte 0", next(boat, -48), NONE);
        Check.due("byte 127", next(boat, 79), NONE);
        Check.due("byte 128", next(boat, 80), NONE);
        Check.due("byte 255", next(boat, 207), NONE);
    }

    static void promise19_noneWhenItIsNoSuchRow() {
        Check.sentence("NONE: none grows, or it is no such row");
        String things = W + "thing a 1 0 0 0 1 0;thing b 1 0 0 0 2 0;";
        LastBoat boat = Check.told("weeks 1;" + things, 4);
        Check.due("a byte each", next(boat, 0, 0), 1);
        Check.due("no byte", next(boat), NONE);
        Check.due("a byte too few", next(boat, 0), NONE);
        Check.due("a byte too many", next(boat, 0, 0, 0), NONE);
        Check.due("900 bytes", next(boat, new int[900]), NONE);
        for (int bad : new int[] { -1, 41 }) {
            Check.due("the first is no q", next(boat, bad, 0), NONE);
            Check.due("the last is no q", next(boat, 0, bad), NONE);
        }
        Refused.staysButTape("next() of no byte", NONE, x -> x.end(0), LastBoat::next);
        Refused.staysButTape("next() of a text", NONE, x -> { }, LastBoat::next);
        Refused.staysButTape("next() of q 41", NONE, x -> Check.putRow(x, 3, 41), LastBoat::next);
    }

    static void promise19_fewerThan40() {
        Check.sentence("NEXT CASE: for a told LIST, the THING (with fewer than 40) whose SCORE grows most with one more");
        LastBoat boat = Check.told("weeks 1;" + W + "thing a 1 0 0 0 9 0;thing b 1 0 0 0 1 0;", 4);
        Check.due("39 of the best", next(boat, 39, 0), 0);
        Check.due("40 of the best", next(boat, 40, 0), 1);
        Check.due("39 of the other", next(boat, 40, 39), 1);
        Check.due("40 of both", next(boat, 40, 40), NONE);
    }

    static void promise19_forEachCaseOfItsRoomAsFractions() {
        Check.sentence("for each case of its ROOM (compared as fractions); the least of alike ones; none if none grows.");
        // 3 over 2 and 4 over 3 are 1 each if they are cut.
        Check.due("4/3 and 3/2", next(Check.told(W + "thing a 3 0 0 0 4 0;thing b 2 0 0 0 3 0;", 3), 0, 0), 1);
        Check.due("3/2 and 4/3", next(Check.told(W + "thing a 2 0 0 0 3 0;thing b 3 0 0 0 4 0;", 3), 0, 0), 0);
        Check.due("9/9 and 98/9", next(Check.told(W + "thing a 9 0 0 0 97 0;thing b 9 0 0 0 98 0;", 3), 0, 0), 1);
    }

    static void promise19_theLeastOfAlikeOnes() {
        Check.sentence("the least of alike ones; none if none grows.");
        LastBoat boat = Check.told(W + "thing a 4 0 0 0 6 0;thing b 2 0 0 0 3 0;thing c 2 0 0 0 3 0;", 4);
        Check.due("6/4, 3/2, 3/2", next(boat, 0, 0, 0), 0);
        Check.due("the first has 40", next(boat, 40, 0, 0), 1);
    }

    static void promise19_noneIfNoneGrows() {
        Check.sentence("the least of alike ones; none if none grows.");
        Check.due("one more is worth nothing", next(Check.told(W + "thing a 1 5 0 0 5 0;", 2), 0), NONE);
        Check.due("one more is worth less", next(Check.told(W + "thing a 1 5 0 0 4 0;", 2), 0), NONE);
        Check.due("one more is worth more", next(Check.told(W + "thing a 1 5 0 0 6 0;", 2), 0), 0);
        LastBoat boat = Check.told("weeks 1;" + W + "thing a 1 1 9 0 0 0;want a w 0 0 0 10 0;", 4);
        Check.due("two of three", next(boat, 2), 0);
        Check.due("three of three: a SCORE above 0 that does not grow", next(boat, 3), NONE);
        Check.due("no THINGS", next(Check.told(W, 1)), NONE);
    }

    static void promise19_theLeastThatMayGrow() {
        Check.sentence("whose SCORE grows most with one more, for each case of its ROOM (compared as fractions)");
        // One way of a hundred, a PAY of 1: the SCORE grows by 1, the least whole number there is.
        for (int room : new int[] { 1, 9 }) {
            LastBoat boat = Check.told("weeks 1;winter v 1 10 0 0;winter w 9 10 0 0;thing a " + room + " 0 1 0 0 0;want a v 9 1 0 0 0;", 5);
            Check.due("the SCORE of one", boat.score(0, 1, NONE), 1);
            Check.due("it grows", next(boat, 0), 0);
            Check.due("it does not grow again", next(boat, 1), NONE);
        }
    }

    static void promise19_itMayBeMoreThanTheCases() {
        Check.sentence("it may be more than the cases");
        LastBoat boat = Check.told("cases 0;" + W + "thing a 9 0 0 0 1 0;thing b 9 0 0 0 2 0;", 4);
        Check.due("39 of each in no case", next(boat, 39, 39), 1);
    }

    static void promise19_stateWithoutWinters() {
        Check.sentence("STATE: there are no WINTERS.");
        Check.due("nothing told", next(new LastBoat()), LastBoat.STATE);
        LastBoat bare = Check.told("thing t 1 1 1 1 1 0;", 1);
        Check.due("a row", next(bare, 0), LastBoat.STATE);
        Check.due("no such row", next(bare, 41), LastBoat.STATE);
        Check.due("no byte", next(bare), LastBoat.STATE);
    }

    // ---- Promise 20

    /** a wants so many in one WEEK, some of them NEEDED; b wants one; b does for a. */
    private static String pair(String a, String b, int hundredth) {
        return "weeks 1;" + W + "thing a " + a + ";thing b " + b + ";want a w 0 0 0 10 2;want b w 0 10 0 0 1;instead b a "
            + hundredth + ";";
    }

    static void promise20_qAndR0To20() {
        Check.sentence("RANGE (-9000000000000000000): no such THING, none does for it, q, r above 20, or there are no WINTERS.");
        LastBoat boat = Check.told(pair("1 0 1 100 0 0", "1 0 1 10 0 0", 0), 7);
        Check.due("q 0, r 0", boat.instead(0, 0, 0, 0), -(200 + 10) * 1000);
        Check.due("q 20, r 20", boat.instead(0, 20, 20, 0), (3 + 1) * 1000);
        Check.due("q 0, r 20", boat.instead(0, 0, 20, 0), 1000);
        Check.due("q 20, r 0", boat.instead(0, 20, 0, 0), (3 - 10) * 1000);
        for (int what = 0; what < 2; what++) {
            for (int bad : new int[] { -1, 21, 40, Integer.MAX_VALUE, Integer.MIN_VALUE }) {
                int of = what;
                Refused.stays("instead(0, " + bad + ", 0, " + of + ")", Check.FAR, x -> x.instead(0, bad, 0, of));
                Refused.stays("instead(0, 0, " + bad + ", " + of + ")", Check.FAR, x -> x.instead(0, 0, bad, of));
            }
        }
    }

    static void promise20_whats0And1() {
        Check.sentence("TOGETHER (what 0), or GAP (1), times 10 to (twice the WEEKS and one)");
        LastBoat boat = Check.told(pair("1 0 8 100 0 0", "1 0 1 10 0 0", 50), 7);
        Check.due("TOGETHER", boat.instead(0, 0, 4, 0), (3 * 4 + 1) * 1000);
        Check.due("GAP", boat.instead(0, 0, 4, 1), (3 * 4 + 200) * 1000);
        for (int bad : new int[] { -1, 2, Integer.MAX_VALUE, Integer.MIN_VALUE }) {
            Refused.stays("instead(0, 1, 1, " + bad + ")", Check.FAR, x -> x.instead(0, 1, 1, bad));
        }
    }

    static void promise20_times10ToTwiceTheWeeksAndOne() {
        Check.sentence("times 10 to (twice the WEEKS and one)");
        long ways = 10;
        for (int weeks = 1; weeks <= 5; weeks++) {
            ways *= 100;
            LastBoat boat = Check.told("weeks " + weeks + ";" + W + "thing a 1 0 10 0 0 0;thing b 1 0 0 0 0 0;"
                + "want a w 0 10 0 0 0;instead b a 100;", 6);
            Check.due("one each of " + weeks + " weeks", boat.instead(0, 0, 20, 0), 10 * weeks * ways);
            Check.due("GAP", boat.instead(0, 0, 20, 1), 10 * weeks * ways);
        }
    }

    static void promise20_noSuchThingOrNoneDoesForIt() {
        Check.sentence("RANGE (-9000000000000000000): no such THING, none does for it");
        Check.isTrue("u does for t", Refused.boatWithAll().instead(0, 1, 1, 0) != Check.FAR);
        for (int bad : new int[] { 1, -1, 2, 4, Integer.MAX_VALUE, Integer.MIN_VALUE }) {
            Refused.stays("instead(" + bad + ", 1, 1, 0)", Check.FAR, x -> x.instead(bad, 1, 1, 0));
            Refused.stays("instead(" + bad + ", 1, 1, 1)", Check.FAR, x -> x.instead(bad, 1, 1, 1));
        }
    }

    static void promise20_rangeWithoutWinters() {
        Check.sentence("q, r above 20, or there are no WINTERS.");
        LastBoat bare = Check.told("thing a 1 1 1 1 1 0;thing b 1 1 1 1 1 0;instead b a 50;", 3);
        Check.due("TOGETHER", bare.instead(0, 1, 1, 0), Check.FAR);
        Check.due("GAP", bare.instead(0, 1, 1, 1), Check.FAR);
    }

    static void termIII_insteadAsManyAsThereAreOfB() {
        Check.sentence("then of what a LACKED and, after that, MISSED as many as there are of b (with KEEP: above k) are given from b instead");
        LastBoat boat = Check.told(pair("1 0 10 100 0 0", "1 0 0 0 0 0", 10), 7);
        Check.due("none of b", boat.instead(0, 0, 0, 0), -200 * 1000);
        Check.due("one of b, for its own", boat.instead(0, 0, 1, 0), -200 * 1000);
        Check.due("two of b, one for what is LACKED", boat.instead(0, 0, 2, 0), (1 - 100) * 1000);
        Check.due("three of b, both that are LACKED", boat.instead(0, 0, 3, 0), 2 * 1000);
        Check.due("four of b, one that is MISSED too", boat.instead(0, 0, 4, 0), 3 * 1000);
        Check.due("five of b, one is over", boat.instead(0, 0, 5, 0), 3 * 1000);
        Check.due("nothing is LACKED or MISSED", boat.instead(0, 3, 5, 0), 30 * 1000);
    }

    static void termIII_insteadWithKeepAboveK() {
        Check.sentence("as many as there are of b (with KEEP: above k) are given from b instead");
        LastBoat boat = Check.told(pair("1 0 10 100 0 0", "1 0 0 0 0 0", 10), 7);
        Check.due("KEEP 2 of b", boat.rule(1, 1, 2), 1);
        Check.due("2 behind its own", boat.instead(0, 0, 3, 0), -200 * 1000);
        Check.due("3 behind its own", boat.instead(0, 0, 4, 0), (1 - 100) * 1000);
        Check.due("5 behind its own", boat.instead(0, 0, 6, 0), 3 * 1000);
        Check.due("KEEP 40 of a, FREE b", boat.rule(0, 1, 40) + boat.rule(1, 0, 0), 2);
        Check.due("a's RULE does not keep b's", boat.instead(0, 0, 4, 0), 3 * 1000);
        Check.due("DEAR 40 of b", boat.rule(1, 2, 40) + boat.rule(0, 0, 0), 2);
        Check.due("DEAR does not keep it", boat.instead(0, 0, 4, 0), 3 * 1000);
    }

    static void termIII_insteadBringsAHundredthCut() {
        Check.sentence("each brings PAY of a times its hundredth over 100 (cut).");
        int[][] due = { { 99, 0, 0 }, { 99, 1, 0 }, { 99, 2, 1 }, { 99, 99, 98 }, { 99, 100, 99 }, { 1, 99, 0 }, { 1, 100, 1 },
            { 50, 3, 1 }, { 50, 2, 1 }, { 50, 1, 0 }, { 0, 100, 0 } };
        for (int[] each : due) {
            LastBoat boat = Check.told(pair("1 0 " + each[0] + " 0 0 0", "1 0 0 0 0 0", each[1]), 7);
            Check.due(each[0] + " times " + each[1] + ", three", boat.instead(0, 0, 4, 0), 3 * each[2] * 1000);
        }
    }

    static void termIII_insteadThenBothSpoil() {
        Check.sentence("Then both spoil.");
        LastBoat boat = Check.told(pair("1 0 0 0 7 2", "1 0 0 0 5 2", 0), 7);
        Check.due("4 of b are none then: none spoils", boat.instead(0, 0, 4, 0), 0);
        Check.due("5 of b are 1 then: none spoils", boat.instead(0, 0, 5, 0), 5 * 1000);
        Check.due("6 of b are 2 then: one spoils", boat.instead(0, 0, 6, 0), 5 * 1000);
        Check.due("5 of a are 2 then: one spoils", boat.instead(0, 5, 1, 0), 7 * 1000);
    }

    static void termIII_insteadBItselfGetsNothingInstead() {
        Check.sentence("(b itself gets nothing instead there.");
        LastBoat boat = Check.told("weeks 1;" + W + "thing a 1 0 0 0 0 0;thing b 1 0 10 100 0 0;want b w 0 10 0 0 1;"
            + "instead b a 100;instead a b 100;", 7);
        Check.due("b LACKS, with 20 of a", boat.instead(0, 20, 0, 0), -100 * 1000);
        Check.due("a does for b when b is asked for", boat.instead(1, 0, 20, 0), 10 * 1000);
    }
}
