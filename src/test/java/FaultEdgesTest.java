/** Term I's faults: each kind at its edges, the place, the first one, the least one. */
public final class FaultEdgesTest {
    private static final int NONE = LastBoat.NONE;
    private static final int SYNTAX = 1;
    private static final int RANGE = 2;
    private static final int TWICE = 3;
    private static final int ROOM = 4;
    private static final int UNKNOWN = 5;
    private static final int LATE = 6;
    private static final int SUM = 7;
    private static final String W = "winter w 10 10 0 0;";
    private static final String A = "thing a 1 2 3 4 5 0;";
    private static final String B = "thing b 1 2 3 4 5 0;";
    private static final String C = "thing c 1 2 3 4 5 0;";
    private static final String D = "thing d 1 2 3 4 5 0;";
    private static final String FOUR_WINTERS = "winter a 10 10 0 0;winter b 0 10 0 0;winter c 0 10 0 0;winter d 0 10 0 0;";
    private static final String SIX_FAMILIES = "family a 1 1 1;family b 1 1 1;family c 1 1 1;family d 1 1 1;family e 1 1 1;"
        + "family f 1 1 1;";

    public static void main(String[] args) {
        Sentences.run(FaultEdgesTest.class);
    }

    /** The fault comes at the end of what is ahead, with the text that follows it. */
    private static void fault(String ahead, String then, int kind) {
        LastBoat boat = new LastBoat();
        Check.put(boat, ahead + then);
        Check.due("post() of " + ahead + then, boat.post(), NONE);
        Check.due("KIND of " + ahead + then, boat.fault(0), kind);
        Check.due("PLACE of " + ahead + then, boat.fault(1), ahead.length());
        Check.due("clauses that stay, " + ahead + then, boat.count(0), 0);
    }

    /** What was told in an earlier post, or in one that had a fault, is not told in this one. */
    private static void takenAgainAndAgain(String text, int clauses) {
        LastBoat boat = new LastBoat();
        for (int turn = 0; turn < 3; turn++) {
            Check.put(boat, text);
            Check.due("post() of " + text, boat.post(), clauses);
            Check.put(boat, text + "#");
            Check.due("post() of " + text + "#", boat.post(), NONE);
            Check.due("KIND of " + text + "#", boat.fault(0), SYNTAX);
            Check.due("PLACE of " + text + "#", boat.fault(1), text.length());
        }
    }

    static void termI_faultPlaceIsATokensFirstByte() {
        Check.sentence("FAULTS: KIND and PLACE (a TOKEN's first byte; the text's length at its end)");
        fault("", "abcdefghi;", SYNTAX);
        fault("  \n", "week 3;", SYNTAX);
        fault("weeks  ", "0006;", SYNTAX);
        fault("weeks  ", "006;", RANGE);
        fault("cases\n\n", "100;", RANGE);
        fault("weeks 1;\n ", "weeks 1;", TWICE);
        fault(FOUR_WINTERS + " ", "winter e 0 10 0 0;", ROOM);
        fault(A + W + "want a   ", "ww 10 0 0 0 0;", UNKNOWN);
        fault("cases 1; ", "weeks 1;", LATE);
        fault("winter w 10 4 4  ", "003;", SUM);
    }

    static void termI_faultPlaceIsTheTextsLengthAtItsEnd() {
        Check.sentence("FAULTS: KIND and PLACE (a TOKEN's first byte; the text's length at its end)");
        fault("weeks", "", SYNTAX);
        fault("weeks \n ", "", SYNTAX);
        fault("weeks 1", "", SYNTAX);
        fault("weeks 1 ", "", SYNTAX);
        fault("winter w 9 10 0 0;", "", SUM);
        fault("winter w 9 10 0 0; \n", "", SUM);
        fault("weeks 1" + " ".repeat(893), "", SYNTAX);
        fault("winter w 9 10 0 0;" + " ".repeat(882), "", SUM);
    }

    static void termI_faultIsTheFirstComeTo() {
        Check.sentence("the first come to as TOKENS are read one by one, of one TOKEN the least KIND");
        fault("weeks ", "9;#", RANGE);
        fault("", "#weeks 9;", SYNTAX);
        fault("weeks 1;", "weeks 9;", TWICE);
        fault("cases 1;", "weeks 9;", LATE);
        fault(A + "thing ", "a 0 2 3 4 5 0;", TWICE);
        fault(FOUR_WINTERS, "winter a 11 10 0 0;", ROOM);
        fault("winter w 10 5 5 ", "1;winter w", SUM);
        fault("winter w 9 10 0 0;", "7", SYNTAX);
        fault("winter w 9 10 0 0;cases ", "100;", RANGE);
        fault("winter w 9 10 0 0", "", SYNTAX);
        fault("want ", "a b 99 99 99 99 99;", UNKNOWN);
    }

    static void termI_faultOfOneTokenIsTheLeastKind() {
        Check.sentence("of one TOKEN the least KIND");
        // Weeks told, and then again behind another clause, is TWICE (3) and LATE (6).
        fault("weeks 1;cases 1;", "weeks 1;", TWICE);
        // The last sign, the last want above ten is RANGE (2) and SUM (7).
        fault("winter w 10 0 0 ", "11;", RANGE);
        fault("winter w 10 10 10 ", "11;", RANGE);
        fault(A + W + "want a w 5 5 5 ", "11 0;", RANGE);
        // A run that is too long is SYNTAX (1), whatever number it would be.
        fault("winter w 10 0 0 ", "0011;", SYNTAX);
        fault("weeks ", "0009;", SYNTAX);
    }

    static void termI_fault1SyntaxATokenWithWhichNoTextGoesOn() {
        Check.sentence("1 SYNTAX: a TOKEN (or byte that is none, a run that is too long) with which no text goes on.");
        fault("", "week 1;", SYNTAX);
        fault("", "weeksa 1;", SYNTAX);
        fault("", "weekz 1;", SYNTAX);
        fault("", "aeeks 1;", SYNTAX);
        fault("", "w 1;", SYNTAX);
        fault("", "3;", SYNTAX);
        fault("", ";", SYNTAX);
        fault("weeks 1", "cases 1;", SYNTAX);
        fault("weeks 1;", ";", SYNTAX);
        fault("weeks ", "one;", SYNTAX);
        fault("weeks", ";", SYNTAX);
        fault("thing ", "1 2 3 4 5 0;", SYNTAX);
        fault("thing a 1 2 3 4 5", ";", SYNTAX);
        fault("thing a 1 2 3 4 5 0 ", "0;", SYNTAX);
    }

    static void termI_fault1SyntaxAByteThatIsNone() {
        Check.sentence("1 SYNTAX: a TOKEN (or byte that is none, a run that is too long) with which no text goes on.");
        for (int sign = 0; sign < 256; sign++) {
            boolean isToken = sign == ';' || sign >= '0' && sign <= '9' || sign >= 'a' && sign <= 'z';
            if (sign != 32 && sign != 10) {
                fault("weeks 1;", String.valueOf((char) sign), SYNTAX);
            }
            if (!isToken && sign != 32 && sign != 10) {
                fault("thing a 1 2", (char) sign + "3 4 5 0;", SYNTAX);
                fault("thing a", (char) sign + "b 1 2 3 4 5 0;", SYNTAX);
                fault("weeks 1", String.valueOf((char) sign), SYNTAX);
            }
        }
    }

    static void termI_fault1SyntaxARunThatIsTooLong() {
        Check.sentence("1 SYNTAX: a TOKEN (or byte that is none, a run that is too long) with which no text goes on.");
        fault("thing ", "abcdefghi 1 2 3 4 5 0;", SYNTAX);
        fault(A + W + "want ", "aaaaaaaaa w 10 0 0 0 0;", SYNTAX);
        fault("cases ", "0001;", SYNTAX);
        fault("", "weeksweeks 1;", SYNTAX);
        fault("thing a ", "0001 2 3 4 5 0;", SYNTAX);
        Check.told("thing abcdefgh 001 002 003 004 005 000;", 1);
    }

    static void termI_fault2RangeAnNOutOfItsBounds() {
        Check.sentence("2 RANGE: an N out of its bounds.");
        fault("weeks ", "0;", RANGE);
        fault("weeks ", "6;", RANGE);
        fault("cases ", "100;", RANGE);
        fault("winter w ", "11 10 0 0;", RANGE);
        fault("thing a ", "0 2 3 4 5 0;", RANGE);
        fault("thing a ", "10 2 3 4 5 0;", RANGE);
        fault("thing a 1 ", "100 3 4 5 0;", RANGE);
        fault("thing a 1 2 ", "100 4 5 0;", RANGE);
        fault("thing a 1 2 3 ", "501 5 0;", RANGE);
        fault("thing a 1 2 3 4 ", "100 0;", RANGE);
        fault("thing a 1 2 3 4 5 ", "1;", RANGE);
        fault("thing a 1 2 3 4 5 ", "10;", RANGE);
        fault(A + W + "want a w 10 0 0 0 ", "4;", RANGE);
        fault(A + B + "instead a b ", "101;", RANGE);
        fault("family f ", "11 1 1;", RANGE);
        fault("family f 1 ", "0 1;", RANGE);
        fault("family f 1 ", "501 1;", RANGE);
        fault("family f 1 1 ", "501;", RANGE);
    }

    static void termI_fault3TwiceWeeksAndCasesAgain() {
        Check.sentence("3 TWICE: weeks, cases again");
        fault("weeks 1;", "weeks 1;", TWICE);
        fault("weeks 1;cases 1;", "weeks 1;", TWICE);
        fault("cases 1;", "cases 1;", TWICE);
        fault("weeks 1;cases 40;" + W, "cases 40;", TWICE);
        // What is told by itself, at first, is not yet told.
        Check.told("weeks 4;cases 40;", 2);
        takenAgainAndAgain("weeks 4;cases 40;", 2);
    }

    static void termI_fault3TwiceANameThatOneOfItsKindHas() {
        Check.sentence("a name that one of its kind has");
        fault(A + "thing ", "a 1 2 3 4 5 0;", TWICE);
        fault(A + B + C + "thing ", "c 1 2 3 4 5 0;", TWICE);
        fault("winter w 5 10 0 0;winter ", "w 5 10 0 0;", TWICE);
        fault("family a 1 1 1;family b 1 1 1;family c 1 1 1;family d 1 1 1;family e 1 1 1;family ", "a 1 1 1;", TWICE);
        Check.told("winter a 10 10 0 0;" + A + "family a 1 1 1;", 3);
        Check.told(A + "thing aa 1 2 3 4 5 0;thing b 1 2 3 4 5 0;thing ab 1 2 3 4 5 0;", 4);
        takenAgainAndAgain(W + A + "family a 1 1 1;", 3);
    }

    static void termI_fault3TwiceTheWinterOfAWant() {
        Check.sentence("the WINTER of a want of which that was told for the THING");
        String two = "winter v 4 10 0 0;winter w 6 10 0 0;" + A + B;
        Check.told(two + "want a v 10 0 0 0 0;want a w 10 0 0 0 0;want b v 10 0 0 0 0;want b w 10 0 0 0 0;", 8);
        fault(two + "want a v 10 0 0 0 0;want a ", "v 10 0 0 0 0;", TWICE);
        fault(two + "want a w 10 0 0 0 0;want b w 10 0 0 0 0;want a ", "w 0 10 0 0 0;", TWICE);
        takenAgainAndAgain(two + "want a v 10 0 0 0 0;", 5);
    }

    static void termI_fault3TwiceTheSecondThingOfAnInstead() {
        Check.sentence("the second THING of an instead that is the first, or that has one that does for it.");
        fault(A + "instead a ", "a 1;", TWICE);
        fault(A + B + C + "instead a b 1;instead c ", "b 1;", TWICE);
        fault(A + B + "instead a b 1;instead a ", "b 1;", TWICE);
        fault(A + B + "instead a b 1;instead b ", "b 1;", TWICE);
        // One may do for two, two for each other, and one that is done for may do for a third.
        Check.told(A + B + C + "instead a b 1;instead a c 1;instead b a 1;", 6);
        Check.told(A + B + C + D + "instead a b 1;instead b c 1;instead c d 1;instead d a 1;", 8);
        takenAgainAndAgain(A + B + "instead a b 1;", 3);
    }

    static void termI_fault4RoomTooManyAtItsFirstWord() {
        Check.sentence("4 ROOM: a winter, thing, family too many, at its first WORD.");
        Check.told(FOUR_WINTERS, 4);
        fault(FOUR_WINTERS, "winter", ROOM);
        fault(FOUR_WINTERS, "winter a", ROOM);
        fault(FOUR_WINTERS, "winter e 0 10 0 0;", ROOM);
        Check.told(A + B + C + D, 4);
        fault(A + B + C + D, "thing", ROOM);
        fault(A + B + C + D, "thing #", ROOM);
        Check.told(SIX_FAMILIES, 6);
        fault(SIX_FAMILIES, "family", ROOM);
        fault(SIX_FAMILIES, "family g 11 0 501;", ROOM);
        takenAgainAndAgain(FOUR_WINTERS + SIX_FAMILIES + A + B + C + D, 14);
    }

    static void termI_fault5UnknownAWThatIsNoneOfItsKind() {
        Check.sentence("5 UNKNOWN: a W that should be a THING, a WINTER and is none.");
        fault(W + A + "want ", "w a 10 0 0 0 0;", UNKNOWN);
        fault(W + A + "want a ", "a 10 0 0 0 0;", UNKNOWN);
        fault(W + A + "want ", "aa w 10 0 0 0 0;", UNKNOWN);
        fault(W + A + "want a ", "ww 10 0 0 0 0;", UNKNOWN);
        fault(W + A + "want a ", "v 10 0 0 0 0;", UNKNOWN);
        fault(W + A + "instead ", "b a 1;", UNKNOWN);
        fault(W + A + "instead a ", "b 1;", UNKNOWN);
        fault(W + A + "instead a ", "w 1;", UNKNOWN);
        fault("want ", "a w 10 0 0 0 0;", UNKNOWN);
        fault("instead ", "a a 1;", UNKNOWN);
        // What an earlier post was told, this one was not.
        LastBoat boat = Check.told(W + A, 2);
        Check.put(boat, W + "want a w 10 0 0 0 0;");
        Check.due("post()", boat.post(), NONE);
        Check.due("KIND", boat.fault(0), UNKNOWN);
        Check.due("PLACE", boat.fault(1), W.length() + 5);
    }

    static void termI_fault6LateWeeksBehindAnotherClause() {
        Check.sentence("6 LATE: weeks behind another clause.");
        Check.told("weeks 4;cases 1;", 2);
        fault("cases 1;", "weeks 4;", LATE);
        fault(W, "weeks", LATE);
        fault(A, "weeks 9;", LATE);
        fault("family f 1 1 1;", "weeks;", LATE);
    }

    static void termI_fault7SumSignsThatAreNotTen() {
        Check.sentence("7 SUM: signs, wants that aren't ten together, at the last of them");
        Check.told("winter w 10 3 3 4;", 1);
        fault("winter w 10 3 3 ", "3;", SUM);
        fault("winter w 10 3 3 ", "5;", SUM);
        fault("winter w 10 0 0 ", "0;", SUM);
        fault("winter w 10 10 10 ", "10;", SUM);
        fault("winter w 10 10 0 ", "10", SUM);
    }

    static void termI_fault7SumWantsThatAreNotTen() {
        Check.sentence("7 SUM: signs, wants that aren't ten together, at the last of them");
        Check.told(W + A + "want a w 2 2 3 3 0;", 3);
        Check.told(W + A + "want a w 2 2 3 3 3;", 3);
        fault(W + A + "want a w 2 2 3 ", "2 0;", SUM);
        fault(W + A + "want a w 2 2 3 ", "2 1;", SUM);
        fault(W + A + "want a w 2 2 3 ", "4 0;", SUM);
        fault(W + A + "want a w 0 0 0 ", "0 3;", SUM);
        fault(W + A + "want a w 10 10 10 ", "10 0;", SUM);
    }

    static void termI_fault7SumWeightsThatAreNotTen() {
        Check.sentence("at the text's end, if there are WINTERS, WEIGHTS that aren't ten together.");
        Check.told(A, 1);
        Check.told("winter v 0 10 0 0;winter w 10 10 0 0;", 2);
        Check.told("winter s 1 10 0 0;winter t 2 10 0 0;winter v 3 10 0 0;winter w 4 10 0 0;", 4);
        fault("winter w 9 10 0 0;", "", SUM);
        fault("winter w 0 10 0 0;", "", SUM);
        fault("winter v 10 10 0 0;winter w 1 10 0 0;", "", SUM);
        fault("winter v 5 10 0 0;winter w 4 10 0 0;", "", SUM);
        fault("winter s 10 10 0 0;winter t 10 10 0 0;winter v 10 10 0 0;winter w 10 10 0 0;", "", SUM);
        // Only at the end: a winter that is still to come may make it ten.
        Check.told("winter v 3 10 0 0;cases 9;" + A + "winter w 7 10 0 0;", 4);
    }
}
