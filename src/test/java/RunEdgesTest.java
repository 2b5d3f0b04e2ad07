import java.math.BigInteger;

/** The edges of a winter run: Term V, promises 28 to 33. */
public final class RunEdgesTest {
    private static final int NONE = LastBoat.NONE;
    private static final int RANGE = LastBoat.RANGE;
    private static final int STATE = LastBoat.STATE;
    private static final String W = "winter w 10 10 0 0;";
    /** One is wanted and NEEDED in each WEEK; COST 1, PAY 5, LACK 10, LEFT 2. */
    private static final String THING = "thing t 1 1 5 10 2 0;want t w 0 10 0 0 1;";
    private static final int[] NO_SLOT = { -1, 3, Integer.MAX_VALUE, Integer.MIN_VALUE };

    public static void main(String[] args) {
        Sentences.run(RunEdgesTest.class);
    }

    /** The document's numbers, reckoned with as many digits as they need. */
    private static final class Draws {
        private BigInteger s;

        Draws(int seed) {
            s = BigInteger.valueOf(seed);
        }

        int ofTen() {
            s = s.multiply(BigInteger.valueOf(1103515245)).add(BigInteger.valueOf(12345)).mod(BigInteger.valueOf(2147483648L));
            return s.divide(BigInteger.valueOf(65536)).mod(BigInteger.TEN).intValue();
        }
    }

    private static int begin(LastBoat boat, int seed, int... row) {
        Check.putRow(boat, row);
        return boat.begin(seed);
    }

    private static LastBoat begun(String text, int clauses, int seed, int... row) {
        LastBoat boat = Check.told(text, clauses);
        Check.isTrue("begin(" + seed + ")", begin(boat, seed, row) >= 0);
        return boat;
    }

    private static LastBoat begunOf(int weeks, int q) {
        return begun("weeks " + weeks + ";" + W + THING, 4, 7, q);
    }

    private static void row(String what, LastBoat boat, int... due) {
        for (int i = 0; i < due.length; i++) {
            Check.due(what + ", stock(0, " + i + ")", boat.stock(0, i), due[i]);
        }
    }

    private static void ran(String what, LastBoat boat, int... due) {
        for (int i = 0; i < due.length; i++) {
            Check.due(what + ", ran(" + i + ")", boat.ran(i), due[i]);
        }
    }

    // ---- Term V: what is drawn

    static void termV_modulo2147483648() {
        Check.sentence("s becomes (1103515245 times s and 12345) modulo 2147483648 each time; what is drawn of n is s over 65536 (cut), modulo n.");
        int[] seeds = { 0, 1, 2, 3, 65535, 65536, 1103515245, 1073741823, 1073741824, 2147418112, 2147483646, 2147483647 };
        LastBoat boat = Check.told("weeks 5;winter w 10 4 3 3;thing a 1 0 0 0 0 0;thing b 1 0 0 0 0 0;want a w 2 3 3 2 0;"
            + "want b w 1 2 3 4 0;", 6);
        int[][] chances = { { 2, 3, 3, 2 }, { 1, 2, 3, 4 } };
        for (int seed : seeds) {
            Draws draws = new Draws(seed);
            draws.ofTen();
            Check.due("begin(" + seed + ")", begin(boat, seed, 40, 40), 0);
            for (int week = 1; week <= 5; week++) {
                Check.due("go(1)", boat.go(1), week);
                Check.due("SIGN by " + seed, boat.ran(1), falls(draws.ofTen(), 4, 3, 3));
                Check.due("wanted of a by " + seed, boat.stock(0, 5), falls(draws.ofTen(), chances[0]));
                Check.due("wanted of b by " + seed, boat.stock(1, 5), falls(draws.ofTen(), chances[1]));
            }
        }
    }

    private static int falls(int drawn, int... chances) {
        int upTo = 0;
        for (int i = 0; i < chances.length; i++) {
            upTo += chances[i];
            if (drawn < upTo) {
                return i;
            }
        }
        return -100;
    }

    static void termV_theWinterInWhoseWeightsItFalls() {
        Check.sentence("First one of ten is drawn: the WINTER in whose WEIGHTS, added by numbers, it falls.");
        int[][] weights = { { 1, 2, 3, 4 }, { 0, 5, 0, 5 }, { 10, 0, 0, 0 }, { 0, 0, 0, 10 }, { 5, 0, 0, 5 }, { 9, 1, 0, 0 }, { 1, 0, 9, 0 } };
        for (int[] weight : weights) {
            StringBuilder text = new StringBuilder();
            for (int w = 0; w < 4; w++) {
                text.append("winter ").append((char) ('a' + w)).append(' ').append(weight[w]).append(" 10 0 0;");
            }
            LastBoat boat = Check.told(text.toString(), 4);
            int drawn = 0;
            for (int seed = 0; seed < 100; seed++) {
                int one = new Draws(seed).ofTen();
                drawn |= 1 << one;
                Check.due("begin(" + seed + ") of " + text, boat.begin(seed), falls(one, weight));
            }
            Check.due("each of ten was drawn", drawn, 1023);
        }
    }

    static void termV_aSignAndAWantThatAreShownInNoWeek() {
        Check.sentence("Each WEEK one of ten is drawn for its SIGN (likewise), then for each THING by numbers one of ten for what is wanted");
        LastBoat boat = Check.told("weeks 5;winter w 10 0 10 0;thing a 1 0 0 0 0 0;thing b 1 0 0 0 0 0;thing c 1 0 0 0 0 0;"
            + "want a w 0 0 0 10 0;want c w 0 5 0 5 0;", 7);
        for (int seed = 0; seed < 40; seed++) {
            begin(boat, seed, 40, 40, 40);
            boat.go(1);
            Check.due("SIGN", boat.ran(1), 1);
            Check.due("wanted of a", boat.stock(0, 5), 3);
            Check.due("nothing is wanted of b", boat.stock(1, 5), 0);
            Draws draws = new Draws(seed);
            for (int ahead = 0; ahead < 4; ahead++) {
                draws.ofTen();
            }
            Check.due("wanted of c, behind b's draw", boat.stock(2, 5), draws.ofTen() < 5 ? 1 : 3);
        }
    }

    static void termV_nothingIsGivenInstead() {
        Check.sentence("all by their RULES (nothing is given instead).");
        LastBoat boat = begun("weeks 1;" + W + THING + "thing u 1 0 0 0 0 0;instead u t 100;", 6, 7, 0, 40);
        boat.go(1);
        row("t LACKS, whatever there is of u", boat, 0, 0, 1, 0, 0, 1);
        Check.due("STOCK of u", boat.stock(1, 0), 40);
        Check.due("JUDGED", boat.ran(2), -10);
    }

    static void termV_byTheRuleAsItIs() {
        Check.sentence("all by their RULES (nothing is given instead).");
        LastBoat boat = begun("weeks 3;" + W + "thing t 1 0 0 0 0 0;want t w 0 10 0 0 0;", 4, 7, 5);
        boat.go(1);
        row("FREE", boat, 4, 1, 0, 0, 0, 1);
        boat.rule(0, 1, 4);
        boat.go(1);
        row("KEEP 4", boat, 4, 1, 0, 1, 0, 1);
        boat.rule(0, 2, 4);
        boat.go(1);
        row("DEAR 4", boat, 4, 1, 0, 1, 0, 1);
    }

    static void termV_leftBehindTheLastWeekAlone() {
        Check.sentence("JUDGED: the sum of PAY, LACK, COST, LEFT so far (LEFT behind the last WEEK alone).");
        LastBoat boat = begunOf(3, 5);
        Check.due("at the begin: COST", boat.ran(2), -5);
        boat.go(1);
        Check.due("behind one WEEK", boat.ran(2), 5 - 5);
        boat.go(1);
        Check.due("ahead of the last WEEK", boat.ran(2), 10 - 5);
        boat.go(1);
        Check.due("behind the last WEEK", boat.ran(2), 15 - 5 + 2 * 2);
        boat = begunOf(3, 1);
        boat.go(3);
        Check.due("two LACK", boat.ran(2), 5 - 20 - 1);
    }

    static void termV_theGreatestThatIsJudged() {
        Check.sentence("JUDGED: the sum of PAY, LACK, COST, LEFT so far (LEFT behind the last WEEK alone).");
        String things = "thing a 1 99 0 500 0 0;thing b 1 99 0 500 0 0;thing c 1 99 0 500 0 0;thing d 1 99 0 500 0 0;"
            + "want a w 0 0 0 10 3;want b w 0 0 0 10 3;want c w 0 0 0 10 3;want d w 0 0 0 10 3;";
        LastBoat boat = begun("weeks 5;" + W + things, 10, 7, 0, 0, 0, 0);
        boat.go(5);
        Check.due("the least", boat.ran(2), -4 * 15 * 500);
        begin(boat, 7, 40, 40, 40, 40);
        Check.due("all that may be ordered", boat.ran(2), -4 * 40 * 99);
        boat.go(5);
        Check.due("nothing LACKS", boat.stock(3, 2), 0);
        Check.due("STOCK behind the last WEEK", boat.stock(3, 0), 25);
    }

    // ---- Promise 28

    static void promise28_seed0To2147483647() {
        Check.sentence("A RUN by a seed (0 .. 2147483647) begins");
        LastBoat boat = Check.told(W + THING, 3);
        Check.due("seed 0", begin(boat, 0, 5), 0);
        Check.due("it begins", boat.ran(0), 0);
        Check.due("seed 2147483647", begin(boat, 2147483647, 6), 0);
        Check.due("it begins", boat.stock(0, 0), 6);
        for (int bad : new int[] { -1, -2147483647, Integer.MIN_VALUE }) {
            Refused.staysButTape("begin(" + bad + ")", RANGE, x -> Check.putRow(x, 1, 1), x -> x.begin(bad));
            Refused.staysButTape("begin(" + bad + ") of no such row", RANGE, x -> Check.putRow(x, 41), x -> x.begin(bad));
        }
    }

    static void promise28_theTapeIsAList() {
        Check.sentence("THE TAPE is a LIST: the WINTER; NONE: it is no such row (the RUN that was stays)");
        LastBoat boat = Check.told("cases 0;" + W + THING, 4);
        Check.due("q 0, byte 48", begin(boat, 1, 0), 0);
        Check.due("STOCK", boat.stock(0, 0), 0);
        Check.due("q 40, byte 88, more than the cases", begin(boat, 1, 40), 0);
        Check.due("STOCK", boat.stock(0, 0), 40);
        LastBoat bare = Check.told(W, 1);
        Check.due("no THING, no byte", begin(bare, 1), 0);
        Check.due("no THING, a byte", begin(bare, 1, 0), NONE);
    }

    static void promise28_noneAndTheRunThatWasStays() {
        Check.sentence("NONE: it is no such row (the RUN that was stays)");
        int[][] bad = { {}, { 1 }, { 1, 1, 1 }, { -1, 1 }, { 1, -1 }, { 41, 1 }, { 1, 41 }, { 80, 1 }, { 1, 207 }, new int[900] };
        for (int[] row : bad) {
            Refused.staysButTape("begin(5) of a wrong row of " + row.length, NONE, x -> Check.putRow(x, row), x -> x.begin(5));
        }
        LastBoat boat = Check.told(W + THING, 3);
        Check.due("no RUN was", begin(boat, 5, 41), NONE);
        Check.due("there is none then", boat.go(0), STATE);
    }

    static void promise28_stateWithoutWinters() {
        Check.sentence("STATE: there are no WINTERS; RANGE: seed.");
        LastBoat bare = Check.told("thing t 1 1 1 1 1 0;", 1);
        Check.due("a row", begin(bare, 1, 5), STATE);
        Check.due("no such row", begin(bare, 1), STATE);
        Check.due("seed -1", begin(bare, -1, 5), RANGE);
        Check.due("no RUN then", bare.ran(0), Check.FAR_NONE);
        Check.due("nothing told", new LastBoat().begin(1), STATE);
    }

    static void promise28_aRunBeginsAnew() {
        Check.sentence("A RUN by a seed (0 .. 2147483647) begins");
        LastBoat boat = Refused.boatWithAll();
        LastBoat young = Check.told(Refused.TEXT, Refused.CLAUSES);
        Check.due("begin(9)", begin(boat, 9, 3, 4), begin(young, 9, 3, 4));
        ran("at its begin", boat, 0, NONE, -3 * 3 - 4);
        row("at its begin", boat, 3, 0, 0, 0, 0, NONE);
        Check.due("the SLOTS stay", boat.take(2), 1);
        Check.due("the SLOTS stay", boat.take(0), 0);
        Check.due("the SLOTS stay", boat.take(Refused.EMPTY_SLOT), STATE);
    }

    // ---- Promise 29

    static void promise29_weeks0To5() {
        Check.sentence("So many WEEKS (0 .. 5) pass: the WEEK that comes; RANGE: also more than there are still; STATE: no RUN.");
        Check.due("go(0)", begunOf(5, 9).go(0), 0);
        Check.due("go(5)", begunOf(5, 9).go(5), 5);
        for (int bad : new int[] { -1, 6, Integer.MAX_VALUE, Integer.MIN_VALUE }) {
            Refused.stays("go(" + bad + ")", RANGE, x -> x.go(bad));
            Check.due("go(" + bad + ") of 5", begunOf(5, 9).go(bad), RANGE);
        }
    }

    static void promise29_noWeekPasses() {
        Check.sentence("So many WEEKS (0 .. 5) pass: the WEEK that comes");
        Refused.stays("go(0)", 2, x -> x.go(0));
        LastBoat boat = begunOf(1, 9);
        boat.go(0);
        ran("no WEEK yet", boat, 0, NONE, -9);
        row("no WEEK yet", boat, 9, 0, 0, 0, 0, NONE);
    }

    static void promise29_rangeForMoreThanThereAreStill() {
        Check.sentence("RANGE: also more than there are still");
        for (int weeks = 1; weeks <= 5; weeks++) {
            for (int passed = 0; passed <= weeks; passed++) {
                LastBoat boat = begunOf(weeks, 9);
                Check.due("go(" + passed + ") of " + weeks, boat.go(passed), passed);
                for (int more = weeks - passed + 1; more <= 5; more++) {
                    Check.due("go(" + more + ") of " + (weeks - passed), boat.go(more), RANGE);
                }
                Check.due("none has passed then", boat.ran(0), passed);
                Check.due("STOCK stays", boat.stock(0, 0), 9 - passed);
                Check.due("the last ones pass", boat.go(weeks - passed), weeks);
                Check.due("none is left", boat.go(1), RANGE);
                Check.due("STOCK behind the last", boat.stock(0, 0), 9 - weeks);
                Check.due("go(0) behind the last", boat.go(0), weeks);
            }
        }
        for (int more = 2; more <= 5; more++) {
            int weeks = more;
            Refused.stays("go(" + weeks + ") of 1", RANGE, x -> x.go(weeks));
        }
    }

    static void promise29_stateWithoutARun() {
        Check.sentence("STATE: no RUN.");
        LastBoat boat = Check.told(W + THING, 3);
        Check.due("go(0)", boat.go(0), STATE);
        Check.due("go(5)", boat.go(5), STATE);
        Check.due("go(-1)", boat.go(-1), RANGE);
        Check.due("go(6)", boat.go(6), RANGE);
        Check.due("there is none then", boat.ran(0), Check.FAR_NONE);
    }

    static void promise29_oneByOneAsAllAtOnce() {
        Check.sentence("So many WEEKS (0 .. 5) pass: the WEEK that comes");
        String text = "weeks 5;winter w 10 3 3 4;thing t 1 1 5 10 2 3;want t w 2 3 3 2 1;";
        LastBoat atOnce = begun(text, 4, 12345, 9);
        LastBoat byOne = begun(text, 4, 12345, 9);
        Check.due("go(5)", atOnce.go(5), 5);
        for (int week = 1; week <= 5; week++) {
            byOne.go(0);
            Check.due("go(1)", byOne.go(1), week);
        }
        for (int what = 0; what < 6; what++) {
            Check.due("stock(0, " + what + ")", byOne.stock(0, what), atOnce.stock(0, what));
        }
        Check.due("SIGN", byOne.ran(1), atOnce.ran(1));
        Check.due("JUDGED", byOne.ran(2), atOnce.ran(2));
    }

    // ---- Promise 30

    static void promise30_whats0To5() {
        Check.sentence("what 0: its STOCK, 1: GIVEN so far, 2: LACKED, 3: MISSED, 4: SPOILT, 5: what was wanted in the latest WEEK (NONE ahead of any)");
        LastBoat boat = begun("weeks 2;" + W + "thing t 1 0 0 0 0 2;want t w 0 0 0 10 1;", 4, 7, 6);
        row("at the begin", boat, 6, 0, 0, 0, 0, NONE);
        boat.go(1);
        row("behind a WEEK", boat, 2, 3, 0, 0, 1, 3);
        boat.go(1);
        row("behind two", boat, 0, 5, 0, 1, 1, 3);
        boat = begun("weeks 2;" + W + "thing t 1 0 0 0 0 2;want t w 0 0 0 10 2;", 4, 7, 1);
        boat.go(2);
        row("LACKED and MISSED so far", boat, 0, 1, 3, 2, 0, 3);
        for (int bad : new int[] { -1, 6, Integer.MAX_VALUE, Integer.MIN_VALUE }) {
            Refused.stays("stock(0, " + bad + ")", RANGE, x -> x.stock(0, bad));
        }
    }

    static void promise30_noneWanted() {
        Check.sentence("5: what was wanted in the latest WEEK (NONE ahead of any)");
        LastBoat boat = begun("weeks 2;" + W + "thing t 1 0 0 0 0 0;", 3, 7, 6);
        Check.due("ahead of any", boat.stock(0, 5), NONE);
        boat.go(1);
        Check.due("nothing was wanted", boat.stock(0, 5), 0);
    }

    static void promise30_noneWithoutARun() {
        Check.sentence("NONE: no RUN; RANGE.");
        LastBoat boat = Check.told(W + THING, 3);
        for (int what = 0; what < 6; what++) {
            Check.due("stock(0, " + what + ")", boat.stock(0, what), NONE);
        }
        Check.due("stock(0, 6)", boat.stock(0, 6), RANGE);
        Check.due("stock(0, -1)", boat.stock(0, -1), RANGE);
        Check.due("stock(1, 0)", boat.stock(1, 0), RANGE);
        Check.due("stock(-1, 0)", boat.stock(-1, 0), RANGE);
    }

    static void promise30_rangeForNoSuchThing() {
        Check.sentence("NONE: no RUN; RANGE.");
        Check.isTrue("the last THING", Refused.boatWithAll().stock(1, 0) >= 0);
        for (int bad : new int[] { -1, 2, 4, Integer.MAX_VALUE, Integer.MIN_VALUE }) {
            Refused.stays("stock(" + bad + ", 0)", RANGE, x -> x.stock(bad, 0));
        }
    }

    // ---- Promise 31

    static void promise31_whats0To2() {
        Check.sentence("what 0: the WEEK that comes, 1: the SIGN of the latest WEEK (NONE ahead of any), 2: JUDGED");
        LastBoat boat = begun("weeks 2;winter w 10 0 0 10;" + THING, 4, 7, 3);
        ran("ahead of any", boat, 0, NONE, -3);
        boat.go(1);
        ran("behind one", boat, 1, 2, 5 - 3);
        boat.go(1);
        ran("behind the last", boat, 2, 2, 10 - 3 + 2);
    }

    static void promise31_noneForAnotherWhat() {
        Check.sentence("NONE (-1000000): no RUN, or another what.");
        for (int bad : new int[] { -1, 3, Integer.MAX_VALUE, Integer.MIN_VALUE }) {
            Refused.stays("ran(" + bad + ")", Check.FAR_NONE, x -> x.ran(bad));
        }
    }

    static void promise31_noneWithoutARun() {
        Check.sentence("NONE (-1000000): no RUN, or another what.");
        LastBoat boat = Check.told(W + THING, 3);
        for (int what = -1; what <= 3; what++) {
            Check.due("ran(" + what + ") of no RUN", boat.ran(what), Check.FAR_NONE);
            Check.due("ran(" + what + ") of nothing told", new LastBoat().ran(what), Check.FAR_NONE);
        }
    }

    static void promise31_judgedMayBeMinus1() {
        Check.sentence("NONE (-1000000): no RUN, or another what.");
        LastBoat boat = begunOf(1, 1);
        Check.due("JUDGED at the begin", boat.ran(2), -1);
    }

    // ---- Promise 32

    static void promise32_slots0To2() {
        Check.sentence("A SLOT (0 .. 2) keeps the RUN: the WEEK that comes; RANGE; STATE: no RUN.");
        LastBoat boat = begunOf(5, 9);
        Check.due("keep(0)", boat.keep(0), 0);
        Check.due("go(2)", boat.go(2), 2);
        Check.due("keep(1)", boat.keep(1), 2);
        Check.due("go(3)", boat.go(3), 5);
        Check.due("keep(2), behind the last WEEK", boat.keep(2), 5);
        for (int bad : NO_SLOT) {
            Refused.stays("keep(" + bad + ")", RANGE, x -> x.keep(bad));
        }
    }

    static void promise32_stateWithoutARun() {
        Check.sentence("RANGE; STATE: no RUN.");
        LastBoat boat = Check.told(W + THING, 3);
        for (int slot = 0; slot < 3; slot++) {
            Check.due("keep(" + slot + ")", boat.keep(slot), STATE);
            Check.due("it is empty still", boat.take(slot), STATE);
        }
        for (int bad : NO_SLOT) {
            Check.due("keep(" + bad + ")", boat.keep(bad), RANGE);
        }
    }

    static void promise32_theRunStays() {
        Check.sentence("A SLOT (0 .. 2) keeps the RUN: the WEEK that comes");
        LastBoat boat = Refused.boatWithAll();
        LastBoat other = Refused.boatWithAll();
        Check.due("keep(1)", boat.keep(1), 2);
        for (int turn = 0; turn < 2; turn++) {
            for (int what = 0; what < 6; what++) {
                Check.due("stock(0, " + what + ")", boat.stock(0, what), other.stock(0, what));
            }
            Check.due("JUDGED", boat.ran(2), other.ran(2));
            Check.due("go(1)", boat.go(1), other.go(1));
        }
    }

    static void promise32_aFullSlotKeepsTheLatest() {
        Check.sentence("A SLOT (0 .. 2) keeps the RUN: the WEEK that comes");
        LastBoat boat = begunOf(5, 9);
        for (int week = 0; week <= 5; week++) {
            for (int slot = 0; slot < 3; slot++) {
                Check.due("keep(" + slot + ")", boat.keep(slot), week);
            }
            if (week < 5) {
                Check.due("go(1)", boat.go(1), week + 1);
                Check.due("keep(1) again", boat.keep(1), week + 1);
                Check.due("take(0)", boat.take(0), week);
                row("SLOT 0 has what it kept", boat, 9 - week, week);
                Check.due("take(1)", boat.take(1), week + 1);
                row("SLOT 1 has the latest", boat, 8 - week, week + 1);
                Check.due("take(2)", boat.take(2), week);
                row("SLOT 2 has what it kept", boat, 9 - week, week);
                Check.due("take(1)", boat.take(1), week + 1);
            }
        }
    }

    // ---- Promise 33

    static void promise33_slots0To2() {
        Check.sentence("The RUN becomes as a SLOT keeps it: the WEEK that comes; RANGE; STATE: it is empty.");
        for (int bad : NO_SLOT) {
            Refused.stays("take(" + bad + ")", RANGE, x -> x.take(bad));
        }
        LastBoat bare = new LastBoat();
        for (int bad : NO_SLOT) {
            Check.due("take(" + bad + ") of nothing told", bare.take(bad), RANGE);
        }
    }

    static void promise33_stateWhenItIsEmpty() {
        Check.sentence("STATE: it is empty.");
        Refused.stays("take(1)", STATE, x -> x.take(Refused.EMPTY_SLOT));
        LastBoat boat = begunOf(5, 9);
        for (int slot = 0; slot < 3; slot++) {
            Check.due("take(" + slot + ")", boat.take(slot), STATE);
            Check.due("the RUN stays", boat.ran(0), slot);
            Check.due("go(1)", boat.go(1), slot + 1);
        }
        for (int slot = 0; slot < 3; slot++) {
            LastBoat one = begunOf(5, 9);
            Check.due("keep(" + slot + ")", one.keep(slot), 0);
            for (int other = 0; other < 3; other++) {
                Check.due("take(" + other + ")", one.take(other), other == slot ? 0 : STATE);
            }
        }
    }

    static void promise33_theSlotStays() {
        Check.sentence("The RUN becomes as a SLOT keeps it: the WEEK that comes");
        LastBoat boat = begunOf(5, 9);
        boat.go(1);
        boat.keep(2);
        for (int turn = 0; turn < 4; turn++) {
            Check.due("take(2)", boat.take(2), 1);
            ran("as it was kept", boat, 1, 0, 5 - 9);
            row("as it was kept", boat, 8, 1, 0, 0, 0, 1);
            Check.due("go on", boat.go(4), 5);
            row("behind the last", boat, 4, 5, 0, 0, 0, 1);
        }
    }

    static void promise33_aRunKeptAheadOfAnyWeek() {
        Check.sentence("The RUN becomes as a SLOT keeps it: the WEEK that comes");
        LastBoat boat = begunOf(2, 9);
        boat.keep(0);
        boat.go(2);
        Check.due("take(0)", boat.take(0), 0);
        ran("ahead of any", boat, 0, NONE, -9);
        row("ahead of any", boat, 9, 0, 0, 0, 0, NONE);
    }

    static void promise33_aRunKeptBehindTheLastWeek() {
        Check.sentence("The RUN becomes as a SLOT keeps it: the WEEK that comes");
        LastBoat boat = begunOf(2, 9);
        boat.go(2);
        boat.keep(0);
        Check.due("another RUN", begin(boat, 3, 1), 0);
        Check.due("take(0)", boat.take(0), 2);
        Check.due("none is left", boat.go(1), RANGE);
        Check.due("JUDGED", boat.ran(2), 10 - 9 + 14);
    }

    static void promise33_theWinterAndTheSeedAreKeptToo() {
        Check.sentence("The RUN becomes as a SLOT keeps it");
        String text = "weeks 5;winter v 5 3 3 4;winter w 5 4 3 3;thing t 1 1 5 10 2 3;want t v 2 3 3 2 1;want t w 0 0 5 5 2;";
        for (int seed = 0; seed < 20; seed++) {
            LastBoat boat = begun(text, 6, seed, 20);
            LastBoat other = begun(text, 6, seed, 20);
            boat.go(2);
            other.go(2);
            boat.keep(1);
            Check.isTrue("another RUN", begin(boat, seed + 1000, 0) >= 0);
            boat.go(4);
            Check.due("take(1)", boat.take(1), 2);
            Check.due("go on", boat.go(3), other.go(3));
            for (int what = 0; what < 6; what++) {
                Check.due("stock(0, " + what + ")", boat.stock(0, what), other.stock(0, what));
            }
            Check.due("SIGN", boat.ran(1), other.ran(1));
        }
    }
}
