/** The edges of a post: Term I's tokens, clauses and bounds, promises 1 and 4 to 9. */
public final class PostEdgesTest {
    private static final int NONE = LastBoat.NONE;
    private static final int RANGE = LastBoat.RANGE;
    private static final int SYNTAX_FAULT = 1;
    private static final int RANGE_FAULT = 2;
    private static final String WINTER = "winter w 10 10 0 0;";
    private static final String TWO_THINGS = "thing a 1 2 3 4 5 0;thing b 1 2 3 4 5 0;";

    public static void main(String[] args) {
        Sentences.run(PostEdgesTest.class);
    }

    /** The text is a post, and then told(what) is that. */
    private static void taken(String text, int what, int due) {
        LastBoat boat = new LastBoat();
        Check.put(boat, text);
        Check.isTrue("a POST: " + text, boat.post() >= 0);
        Check.due("FAULT of " + text, boat.fault(0), 0);
        Check.due("PLACE of " + text, boat.fault(1), NONE);
        Check.due("told(" + what + ") of " + text, boat.told(what), due);
    }

    /** The text has that fault, and the post that was stays. */
    private static void refused(String text, int kind, int place) {
        LastBoat boat = Check.told("weeks 2;cases 3;", 2);
        Check.put(boat, text);
        Check.due("post() of " + text, boat.post(), NONE);
        Check.due("KIND of " + text, boat.fault(0), kind);
        Check.due("PLACE of " + text, boat.fault(1), place);
        Check.due("WEEKS that stay, " + text, boat.told(0), 2);
        Check.due("cases that stay, " + text, boat.told(1), 3);
        Check.due("clauses that stay, " + text, boat.count(0), 2);
        Check.due("bytes behind " + text, boat.count(1), 0);
    }

    /** One object is told many posts, and may keep its rows for the next but one. */
    private static void again(LastBoat boat, String text, int clauses) {
        Check.put(boat, text);
        Check.due("post() of " + text, boat.post(), clauses);
    }

    /** Both sides of an N's bounds; it is then seen by told(what). */
    private static void bounds(String before, String behind, int least, int most, int what) {
        taken(before + least + behind, what, least);
        taken(before + most + behind, what, most);
        if (least > 0) {
            refused(before + (least - 1) + behind, RANGE_FAULT, before.length());
        }
        refused(before + (most + 1) + behind, RANGE_FAULT, before.length());
        refused(before + 999 + behind, RANGE_FAULT, before.length());
    }

    // ---- Term I: tokens

    static void termI_anyBlanksBetweenTokens() {
        Check.sentence("TOKENS with any blanks (32, 10) between");
        taken("weeks3;cases7;", 0, 3);
        taken("weeks 3;", 0, 3);
        taken("weeks\n3;", 0, 3);
        taken("  \n\n weeks \n \n 3 \n ; \n ", 0, 3);
        taken("winter w10 5 5 0;thing a1 2 3 4 5 0;", 20, 1);
        taken(" ".repeat(899) + "\n", 0, 4);
    }

    static void termI_noOtherByteIsABlank() {
        Check.sentence("TOKENS with any blanks (32, 10) between");
        for (int sign = 0; sign < 256; sign++) {
            String text = "weeks" + (char) sign + "3;";
            if (sign == 32 || sign == 10 || sign == '0') {
                taken(text, 0, 3);
            } else if (sign >= '1' && sign <= '9') {
                refused(text, RANGE_FAULT, 5);
            } else if (sign >= 'a' && sign <= 'z') {
                refused(text, SYNTAX_FAULT, 0);
            } else {
                refused(text, SYNTAX_FAULT, 5);
            }
        }
    }

    static void termI_wordsAreSmallLetters() {
        Check.sentence("WORDS (small letters, as many as there are, 8 at most)");
        for (int sign = 0; sign < 256; sign++) {
            String text = "thing " + (char) sign + " 1 2 3 4 5 0;";
            if (sign >= 'a' && sign <= 'z') {
                taken(text, 3, 1);
            } else if (sign == 32 || sign == 10) {
                refused(text, SYNTAX_FAULT, 8);
            } else {
                refused(text, SYNTAX_FAULT, 6);
            }
        }
    }

    static void termI_wordsOf1To8Letters() {
        Check.sentence("WORDS (small letters, as many as there are, 8 at most)");
        taken("thing a 1 2 3 4 5 0;", 3, 1);
        taken("thing abcdefgh 1 2 3 4 5 0;", 3, 1);
        taken("thing abcdefgh1 2 3 4 5 0;", 3, 1);
        refused("thing abcdefghi 1 2 3 4 5 0;", SYNTAX_FAULT, 6);
        refused("thing abcdefghi", SYNTAX_FAULT, 6);
        refused("abcdefghi", SYNTAX_FAULT, 0);
        refused("thing " + "z".repeat(894), SYNTAX_FAULT, 6);
    }

    static void termI_wordsHaveAsManyLettersAsThereAre() {
        Check.sentence("WORDS (small letters, as many as there are, 8 at most)");
        refused("weekscases 3;", SYNTAX_FAULT, 0);
        refused("thinga 1 2 3 4 5 0;", SYNTAX_FAULT, 0);
        taken("thing abcdefgh 1 2 3 4 5 0;thing abcdefg 1 2 3 4 5 0;", 3, 2);
    }

    static void termI_numbersAreDigits() {
        Check.sentence("N (digits, as many as there are, 3 at most)");
        for (int sign = 0; sign < 256; sign++) {
            String text = "cases " + (char) sign + ";";
            if (sign >= '0' && sign <= '9') {
                taken(text, 1, sign - '0');
            } else {
                refused(text, SYNTAX_FAULT, sign == 32 || sign == 10 ? 7 : 6);
            }
        }
    }

    static void termI_numbersOf1To3Digits() {
        Check.sentence("N (digits, as many as there are, 3 at most)");
        taken("cases 0;", 1, 0);
        taken("cases 000;", 1, 0);
        taken("cases 099;", 1, 99);
        refused("cases 999;", RANGE_FAULT, 6);
        refused("cases 0000;", SYNTAX_FAULT, 6);
        refused("cases 0099;", SYNTAX_FAULT, 6);
        refused("cases 1000;", SYNTAX_FAULT, 6);
        refused("cases " + "4294967297".repeat(50) + ";", SYNTAX_FAULT, 6);
    }

    static void termI_aTextOfClausesEachWithItsSemicolon() {
        Check.sentence("A POST is a text = {clause \";\"}.");
        taken("", 0, 4);
        taken("weeks 1;", 0, 1);
        refused(";", SYNTAX_FAULT, 0);
        refused("weeks 1;;", SYNTAX_FAULT, 8);
        refused("weeks 1", SYNTAX_FAULT, 7);
        refused("weeks 1 cases 1;", SYNTAX_FAULT, 8);
        refused("weeks 1:", SYNTAX_FAULT, 7);
        refused("weeks 1<", SYNTAX_FAULT, 7);
    }

    /** Each clause with a token fewer, with just as many, with one more. */
    private static void tokens(String ahead, String[] clause) {
        StringBuilder text = new StringBuilder(ahead);
        for (int i = 0; i < clause.length; i++) {
            if (i > 0) {
                refused(text + ";", SYNTAX_FAULT, text.length());
                refused(text.toString(), SYNTAX_FAULT, text.length());
                text.append(' ');
            }
            refused(text + "#", SYNTAX_FAULT, text.length());
            text.append(clause[i]);
        }
        LastBoat boat = new LastBoat();
        Check.put(boat, text + ";");
        Check.isTrue("all TOKENS: " + text, boat.post() > 0);
        refused(text.toString(), SYNTAX_FAULT, text.length());
        refused(text + " 0;", SYNTAX_FAULT, text.length() + 1);
        refused(text + " a;", SYNTAX_FAULT, text.length() + 1);
    }

    static void termI_eachClauseHasItsTokens() {
        Check.sentence("clause = \"weeks\" N | \"cases\" N | \"winter\" W N N N N | \"thing\" W N N N N N N"
            + " | \"want\" W W N N N N N | \"instead\" W W N | \"family\" W N N N.");
        tokens("", "weeks 3".split(" "));
        tokens("", "cases 3".split(" "));
        tokens("", "winter w 10 5 5 0".split(" "));
        tokens("", "thing a 1 2 3 4 5 0".split(" "));
        tokens(WINTER + TWO_THINGS, "want a w 2 3 3 2 1".split(" "));
        tokens(TWO_THINGS, "instead a b 50".split(" "));
        tokens("", "family f 5 10 20".split(" "));
    }

    static void termI_aNumberWhereAWordIsDueAndAWordWhereANumberIs() {
        Check.sentence("clause = \"weeks\" N | \"cases\" N | \"winter\" W N N N N");
        refused("weeks a;", SYNTAX_FAULT, 6);
        refused("winter 1 10 10 0 0;", SYNTAX_FAULT, 7);
        refused("winter w w 10 0 0;", SYNTAX_FAULT, 9);
        refused(WINTER + TWO_THINGS + "want a 1 2 3 3 2 1;", SYNTAX_FAULT, 66);
        refused(TWO_THINGS + "instead 1 b 50;", SYNTAX_FAULT, 48);
        refused("family f 5 a 20;", SYNTAX_FAULT, 11);
        refused("7 weeks;", SYNTAX_FAULT, 0);
    }

    // ---- Term I: bounds of each clause

    static void termI_weeks1To5() {
        Check.sentence("weeks 1 .. 5 (4), ahead of all else.");
        bounds("weeks ", ";", 1, 5, 0);
    }

    static void termI_weeksUntoldAre4() {
        Check.sentence("weeks 1 .. 5 (4), ahead of all else.");
        taken("", 0, 4);
        taken("cases 3;", 0, 4);
        LastBoat boat = new LastBoat();
        for (int turn = 0; turn < 3; turn++) {
            again(boat, "weeks 5;", 1);
            again(boat, "cases 3;", 1);
            Check.due("WEEKS are not those of a POST that was", boat.told(0), 4);
        }
    }

    static void termI_weeksAheadOfAllElse() {
        Check.sentence("weeks 1 .. 5 (4), ahead of all else.");
        taken(" \nweeks 3;cases 3;", 0, 3);
        refused("cases 3;weeks 3;", 6, 8);
    }

    static void termI_cases0To99() {
        Check.sentence("cases 0 .. 99 (40).");
        bounds("cases ", ";", 0, 99, 1);
        taken(WINTER + "cases 99;", 1, 99);
    }

    static void termI_casesUntoldAre40() {
        Check.sentence("cases 0 .. 99 (40).");
        taken("", 1, 40);
        taken("weeks 3;", 1, 40);
        LastBoat boat = new LastBoat();
        for (int turn = 0; turn < 3; turn++) {
            again(boat, "cases 7;", 1);
            again(boat, "weeks 3;", 1);
            Check.due("cases are not those of a POST that was", boat.told(1), 40);
        }
    }

    static void termI_weight0To10() {
        Check.sentence("winter: a name, its WEIGHT 0 .. 10, and how many of ten weeks show sign 0, 1, 2; at most 4.");
        taken("winter v 10 10 0 0;winter w 0 10 0 0;", 11, 0);
        taken("winter v 0 10 0 0;winter w 10 10 0 0;", 11, 10);
        refused("winter v 0 10 0 0;winter w 11 10 0 0;", RANGE_FAULT, 27);
        refused("winter w 999 10 0 0;", RANGE_FAULT, 9);
    }

    static void termI_eachSign0To10OfTen() {
        Check.sentence("how many of ten weeks show sign 0, 1, 2; at most 4.");
        for (int sign = 0; sign < 3; sign++) {
            String[] chances = { "0", "0", "0" };
            chances[sign] = "10";
            LastBoat boat = Check.told("winter w 10 " + String.join(" ", chances) + ";", 1);
            for (int other = 0; other < 3; other++) {
                Check.due("signs(0, " + other + ")", boat.signs(0, other), other == sign ? 10 : 0);
            }
            chances[sign] = "11";
            refused("winter w 10 " + String.join(" ", chances) + ";", RANGE_FAULT, 12 + 2 * sign);
        }
    }

    static void termI_atMost4Winters() {
        Check.sentence("how many of ten weeks show sign 0, 1, 2; at most 4.");
        String four = "winter a 1 10 0 0;winter b 2 10 0 0;winter c 3 10 0 0;winter d 4 10 0 0;";
        taken(four, 2, 4);
        taken(four, 13, 4);
        refused(four + "winter e 0 10 0 0;", 4, four.length());
    }

    static void termI_room1To9() {
        Check.sentence("ROOM 1 .. 9 cases each");
        bounds("thing a ", " 2 3 4 5 0;", 1, 9, 20);
    }

    static void termI_cost0To99() {
        Check.sentence("COST 0 .. 99");
        bounds("thing a 1 ", " 3 4 5 0;", 0, 99, 30);
    }

    static void termI_pay0To99() {
        Check.sentence("PAY 0 .. 99");
        bounds("thing a 1 2 ", " 4 5 0;", 0, 99, 40);
    }

    static void termI_lack0To500() {
        Check.sentence("LACK 0 .. 500");
        bounds("thing a 1 2 3 ", " 5 0;", 0, 500, 50);
    }

    static void termI_left0To99() {
        Check.sentence("LEFT 0 .. 99");
        bounds("thing a 1 2 3 4 ", " 0;", 0, 99, 60);
    }

    static void termI_spoil0Or2To9() {
        Check.sentence("SPOIL 0 or 2 .. 9; at most 4.");
        bounds("thing a 1 2 3 4 5 ", ";", 0, 9, 70);
        taken("thing a 1 2 3 4 5 2;", 70, 2);
        refused("thing a 1 2 3 4 5 1;", RANGE_FAULT, 18);
        refused("thing a 1 2 3 4 5 001;", RANGE_FAULT, 18);
    }

    static void termI_atMost4Things() {
        Check.sentence("SPOIL 0 or 2 .. 9; at most 4.");
        String four = TWO_THINGS + "thing c 1 2 3 4 5 0;thing d 9 2 3 4 5 0;";
        taken(four, 3, 4);
        taken(four, 23, 9);
        refused(four + "thing e 1 2 3 4 5 0;", 4, four.length());
    }

    static void termI_eachWant0To10OfTen() {
        Check.sentence("want: a THING, a WINTER, of ten weeks in which how many 0, 1, 2, 3 are wanted");
        for (int many = 0; many < 4; many++) {
            String[] chances = { "0", "0", "0", "0" };
            chances[many] = "10";
            LastBoat boat = Check.told(WINTER + TWO_THINGS + "want b w " + String.join(" ", chances) + " 0;", 4);
            for (int other = 0; other < 4; other++) {
                Check.due("wants(1, 0, " + other + ")", boat.wants(1, 0, other), other == many ? 10 : 0);
            }
            chances[many] = "11";
            refused(WINTER + TWO_THINGS + "want b w " + String.join(" ", chances) + " 0;", RANGE_FAULT, 68 + 2 * many);
        }
    }

    static void termI_needed0To3() {
        Check.sentence("how many of those are NEEDED 0 .. 3.");
        String before = WINTER + TWO_THINGS + "want a w 10 0 0 0 ";
        Check.due("NEEDED 0", Check.told(before + "0;", 4).wants(0, 0, 4), 0);
        Check.due("NEEDED 3", Check.told(before + "3;", 4).wants(0, 0, 4), 3);
        refused(before + "4;", RANGE_FAULT, before.length());
        refused(before + "999;", RANGE_FAULT, before.length());
    }

    static void termI_hundredth0To100() {
        Check.sentence("instead: the first THING does for the second one, at so many of a hundred of its PAY 0 .. 100.");
        String things = "weeks 1;" + WINTER + "thing a 1 0 50 0 0 0;thing b 1 0 0 0 0 0;want a w 0 10 0 0 0;";
        String before = things + "instead b a ";
        Check.due("at 0 of a hundred", Check.told(before + "0;", 6).instead(0, 0, 1, 0), 0);
        Check.due("at 100 of a hundred", Check.told(before + "100;", 6).instead(0, 0, 1, 0), 50 * 1000);
        refused(before + "101;", RANGE_FAULT, before.length());
        refused(before + "999;", RANGE_FAULT, before.length());
    }

    static void termI_insteadTheFirstDoesForTheSecond() {
        Check.sentence("instead: the first THING does for the second one");
        LastBoat boat = Check.told(TWO_THINGS + "instead a b 5;", 3);
        Check.due("what does for a", boat.told(80), NONE);
        Check.due("what does for b", boat.told(81), 0);
    }

    static void termI_familyPays0To10() {
        Check.sentence("family: a name, in how many of ten it pays in June 0 .. 10");
        Check.due("pays in none", Check.told("family f 0 10 10;", 1).trust(10), 0);
        Check.due("pays in none, and brings enough", Check.told("family f 0 10 11;", 1).trust(10), 1);
        Check.due("pays in all", Check.told("family f 10 10 1;", 1).trust(10), 1);
        refused("family f 11 10 1;", RANGE_FAULT, 9);
    }

    static void termI_familyOwes1To500() {
        Check.sentence("how much it would owe 1 .. 500");
        Check.due("owes 1, bound 0", Check.told("family f 10 1 1;", 1).trust(0), 0);
        Check.due("owes 1, bound 1", Check.told("family f 10 1 1;", 1).trust(1), 1);
        Check.due("owes 500, bound 499", Check.told("family f 10 500 1;", 1).trust(499), 0);
        Check.due("owes 500, bound 500", Check.told("family f 10 500 1;", 1).trust(500), 1);
        refused("family f 10 0 1;", RANGE_FAULT, 12);
        refused("family f 10 501 1;", RANGE_FAULT, 12);
    }

    static void termI_familyBrings0To500() {
        Check.sentence("what it brings if it is trusted 0 .. 500; at most 6.");
        Check.due("brings 0", Check.told("family f 10 1 0;", 1).trust(9999), 0);
        // 500 times ten is one hundred more than ten times 490, and no more than ten times 500.
        Check.due("brings 500 for 490", Check.told("family f 0 490 500;", 1).trust(9999), 1);
        Check.due("brings 500 for 500", Check.told("family f 0 500 500;", 1).trust(9999), 0);
        refused("family f 10 1 501;", RANGE_FAULT, 14);
    }

    static void termI_atMost6Families() {
        Check.sentence("what it brings if it is trusted 0 .. 500; at most 6.");
        String six = "family a 9 1 9;family b 9 1 9;family c 9 1 9;family d 9 1 9;family e 9 1 9;family f 9 1 9;";
        taken(six, 4, 6);
        Check.due("all six are trusted", Check.told(six, 6).trust(6), 63);
        refused(six + "family g 9 1 9;", 4, six.length());
    }

    static void termI_allAreNumberedFrom0AsTheyCome() {
        Check.sentence("All are numbered from 0 as they come");
        LastBoat boat = Check.told("thing b 2 0 0 0 0 0;winter z 3 10 0 0;family f 1 1 1;thing a 5 0 0 0 0 0;winter y 7 0 10 0;"
            + "want a z 1 2 3 4 2;instead a b 9;", 7);
        Check.due("ROOM of the first", boat.told(20), 2);
        Check.due("ROOM of the second", boat.told(21), 5);
        Check.due("WEIGHT of the first", boat.told(10), 3);
        Check.due("WEIGHT of the second", boat.told(11), 7);
        Check.due("want of the second in the first", boat.wants(1, 0, 3), 4);
        Check.due("no want of the first", boat.wants(0, 0, 0), 10);
        Check.due("the second does for the first", boat.told(80), 1);
    }

    static void termI_namesOfOneKindAreUnlike() {
        Check.sentence("names of one kind are unlike");
        taken("winter a 10 10 0 0;thing a 1 2 3 4 5 0;family a 1 1 1;", 3, 1);
        taken("thing weeks 1 2 3 4 5 0;thing thing 1 2 3 4 5 0;thing w 1 2 3 4 5 0;", 3, 3);
        taken("thing aa 1 2 3 4 5 0;thing a 1 2 3 4 5 0;thing ab 1 2 3 4 5 0;thing aaa 1 2 3 4 5 0;", 3, 4);
        refused("thing a 1 2 3 4 5 0;thing b 1 2 3 4 5 0;thing a 1 2 3 4 5 0;", 3, 46);
        refused("winter aa 5 10 0 0;winter aa 5 10 0 0;", 3, 26);
        refused("family a 1 1 1;family b 1 1 1;family b 1 1 1;", 3, 37);
    }

    static void termI_whatIsNamedIsToldAhead() {
        Check.sentence("a THING, WINTER that is named is told ahead.");
        refused("want a w 10 0 0 0 0;" + WINTER + TWO_THINGS, 5, 5);
        refused(TWO_THINGS + "want a w 10 0 0 0 0;" + WINTER, 5, 47);
        refused("thing a 1 2 3 4 5 0;instead a b 1;thing b 1 2 3 4 5 0;", 5, 30);
        refused("thing a 1 2 3 4 5 0;instead b a 1;thing b 1 2 3 4 5 0;", 5, 28);
        refused(WINTER + TWO_THINGS + "family f 1 1 1;want f w 10 0 0 0 0;", 5, 79);
        refused(WINTER + TWO_THINGS + "want a a 10 0 0 0 0;", 5, 66);
        taken(WINTER + TWO_THINGS + "want b w 10 0 0 0 0;instead b a 1;", 80, 1);
    }

    // ---- Promise 1

    private static void nothingIsTold(LastBoat boat) {
        Check.due("WEEKS", boat.told(0), 4);
        Check.due("cases", boat.told(1), 40);
        Check.due("WINTERS", boat.told(2), 0);
        Check.due("THINGS", boat.told(3), 0);
        Check.due("FAMILIES", boat.told(4), 0);
        for (int what = 5; what < 100; what++) {
            Check.due("told(" + what + ")", boat.told(what), NONE);
        }
        Check.due("fault(0)", boat.fault(0), 0);
        Check.due("fault(1)", boat.fault(1), NONE);
        Check.due("clauses", boat.count(0), 0);
        Check.due("wants", boat.wants(0, 0, 0), RANGE);
        Check.due("signs", boat.signs(0, 0), RANGE);
        Check.due("rule", boat.rule(0, 0, 0), RANGE);
        Check.due("means", boat.means(0, 0, NONE, 0), Check.FAR);
        Check.due("score", boat.score(0, 0, NONE), Check.FAR);
        Check.due("safe", boat.safe(0, 0, NONE, true), RANGE);
        Check.due("one", boat.one(0), RANGE);
        Check.due("keeps", boat.keeps(0, 0), RANGE);
        Check.due("sure", boat.sure(0, 1), RANGE);
        Check.due("worth", boat.worth(0, 0, 0), Check.FAR);
        Check.due("list", boat.list(), Check.FAR);
        Check.due("listed", boat.listed(0), NONE);
        Check.due("next", boat.next(), LastBoat.STATE);
        Check.due("instead", boat.instead(0, 0, 0, 0), Check.FAR);
    }

    private static void nothingIsAhead(LastBoat boat) {
        Check.due("think", boat.think(0, false), RANGE);
        Check.due("after", boat.after(0), RANGE);
        Check.due("sledge", boat.sledge(0, 0, 0, 0, 1, 0), Check.FAR);
        Check.due("when", boat.when(0, 0, 0, 1, 0), RANGE);
        Check.due("second", boat.second(0, 0, 0), Check.FAR);
        Check.due("forTwo", boat.forTwo(0, 0), RANGE);
        Check.due("trust", boat.trust(9999), 0);
        Check.due("begin", boat.begin(0), LastBoat.STATE);
        Check.due("go", boat.go(0), LastBoat.STATE);
        Check.due("stock", boat.stock(0, 0), RANGE);
        for (int what = 0; what < 3; what++) {
            Check.due("ran(" + what + ")", boat.ran(what), Check.FAR_NONE);
            Check.due("keep(" + what + ")", boat.keep(what), LastBoat.STATE);
            Check.due("take(" + what + ")", boat.take(what), LastBoat.STATE);
        }
    }

    static void promise01_aPostOfWhichNothingIsTold() {
        Check.sentence("A POST of which nothing is told.");
        LastBoat boat = new LastBoat();
        nothingIsTold(boat);
        nothingIsAhead(boat);
    }

    static void promise04_anEmptyTapeIsAPostOfWhichNothingIsTold() {
        Check.sentence("THE TAPE is a POST: how many clauses");
        for (int posts = 1; posts <= 3; posts++) {
            LastBoat boat = Refused.boatWithAll();
            for (int more = 1; more < posts; more++) {
                again(boat, Refused.TEXT, Refused.CLAUSES);
            }
            boat.end(0);
            Check.due("post() of no byte", boat.post(), 0);
            nothingIsTold(boat);
            nothingIsAhead(boat);
        }
    }

    // ---- Promise 4

    static void promise04_howManyClauses() {
        Check.sentence("THE TAPE is a POST: how many clauses");
        Check.told("", 0);
        Check.told(" \n", 0);
        Check.told("weeks 1;", 1);
        Check.told("weeks 1;cases 1;", 2);
        Check.due("clauses of the latest POST alone", Check.told("weeks 1;cases 1;family f 1 1 1;", 3).count(0), 3);
    }

    /** weeks, cases, 4 WINTERS, 4 THINGS, 16 wants, 4 insteads, 6 FAMILIES, on a tape that is full. */
    private static LastBoat greatest(Oracle o) {
        StringBuilder text = new StringBuilder(o.text());
        for (char name = 'a'; name < 'g'; name++) {
            text.append("family ").append(name).append(" 9 500 500;");
        }
        text.insert(0, " ".repeat(900 - text.length()));
        return Check.told(text.toString(), 36);
    }

    private static Oracle greatestPost() {
        Oracle o = new Oracle();
        o.weeks = 5;
        o.cases = 99;
        o.winters = 4;
        o.things = 4;
        o.weight = new int[] { 1, 2, 3, 4 };
        o.sign = new int[][] { { 10, 0, 0 }, { 0, 10, 0 }, { 0, 0, 10 }, { 3, 3, 4 } };
        o.thing = new int[][] {
            { 9, 99, 99, 500, 99, 9 }, { 1, 0, 99, 500, 0, 0 }, { 2, 99, 0, 500, 99, 2 }, { 3, 1, 99, 0, 0, 3 } };
        o.isWanted = new boolean[4][4];
        o.want = new int[4][4][];
        o.helper = new int[] { 1, 0, 3, 2 };
        o.helperPart = new int[] { 100, 99, 0, 100 };
        o.rule = new int[4][2];
        for (int t = 0; t < 4; t++) {
            for (int w = 0; w < 4; w++) {
                o.isWanted[t][w] = true;
                o.want[t][w] = w == 3 ? new int[] { 0, 0, 0, 10, 3 } : new int[] { 1 + t, 2, 3 - w, 4 - t + w, w };
            }
        }
        return o;
    }

    static void promise04_theGreatestPostOn900Bytes() {
        Check.sentence("THE TAPE is a POST: how many clauses");
        Oracle o = greatestPost();
        LastBoat boat = greatest(o);
        int[] due = { 5, 99, 4, 4, 6 };
        for (int what = 0; what < 5; what++) {
            Check.due("told(" + what + ")", boat.told(what), due[what]);
        }
        for (int t = 0; t < 4; t++) {
            for (int i = 0; i < 6; i++) {
                Check.due("told(" + (20 + 10 * i + t) + ")", boat.told(20 + 10 * i + t), o.thing[t][i]);
            }
            Check.due("what does for it", boat.told(80 + t), o.helper[t]);
            for (int w = 0; w < 4; w++) {
                for (int n = 0; n < 5; n++) {
                    Check.due("wants", boat.wants(t, w, n), o.want[t][w][n]);
                }
            }
        }
        Check.due("trust", boat.trust(3000), 63);
        Check.due("trust", boat.trust(2999), 31);
    }

    static void promise04_theGreatestPostIsReckoned() {
        Check.sentence("THE TAPE is a POST: how many clauses");
        Oracle o = greatestPost();
        LastBoat boat = greatest(o);
        for (int t = 0; t < 4; t++) {
            for (int q : new int[] { 0, 1, 15, 40 }) {
                Check.due("score", boat.score(t, q, NONE), o.scoreAny(t, q));
                Check.due("second", boat.second(t, q, 10), o.second(t, q, 10));
                Check.due("sledge", boat.sledge(t, q, 4, 40, 20, 99), o.sledge(t, q, 4, 40, 20, 99));
            }
            Check.due("instead", boat.instead(t, 20, 20, 0), o.together(t, 20, 20));
            Check.due("instead of none", boat.instead(t, 0, 0, 0), o.together(t, 0, 0));
        }
        Check.putRow(boat, 40, 40, 40, 40);
        Check.isTrue("a RUN of all it may have", boat.begin(Integer.MAX_VALUE) >= 0);
        Check.due("all its WEEKS", boat.go(5), 5);
    }

    static void promise04_noneWithAFaultAndItStays() {
        Check.sentence("NONE with a FAULT (it stays).");
        Refused.postStays("#", 1, 0);
        Refused.postStays("weeks 2;winter x 10 10 0 0;thing y 1 2 3 4 5 0;#", 1, 47);
        Refused.postStays("weeks 6;", 2, 6);
        Refused.postStays("thing t 9 9 9 9 9 9;thing t", 3, 26);
        Refused.postStays("winter a 0 10 0 0;winter b 0 10 0 0;winter c 0 10 0 0;winter d 0 10 0 0;winter", 4, 72);
        Refused.postStays("thing t 1 1 1 1 1 0;want t a", 5, 27);
        Refused.postStays("cases 99;weeks 1;", 6, 9);
        Refused.postStays("winter z 9 10 0 0;thing t 7 7 7 7 7 7;family g 10 1 500;", 7, 56);
    }

    static void promise04_allRulesAreFreeThen() {
        Check.sentence("All RULES are FREE then; RUN, SLOTS, what list() told are gone.");
        String text = "weeks 1;winter w 10 10 0 0;thing a 1 0 1 0 0 0;thing b 1 0 1 0 0 0;thing c 1 0 1 0 0 0;thing d 1 0 1 0 0 0;"
            + "want a w 0 0 10 0 0;want b w 0 0 10 0 0;want c w 0 0 10 0 0;want d w 0 0 10 0 0;";
        LastBoat boat = new LastBoat();
        for (int turn = 0; turn < 4; turn++) {
            again(boat, text, 10);
            for (int t = 0; t < 4; t++) {
                Check.due("FREE at first, and again", boat.means(t, 2, 0, 0), 20);
                Check.due("rule", boat.rule(t, 1 + (t + turn) % 2, 40), 1);
                Check.due("no longer FREE", boat.means(t, 2, 0, 0), (t + turn) % 2 == 0 ? 0 : 10);
            }
        }
    }

    static void promise04_runSlotsAndListAreGone() {
        Check.sentence("RUN, SLOTS, what list() told are gone.");
        LastBoat boat = Refused.boatWithAll();
        Check.due("keep in the third one too", boat.keep(Refused.EMPTY_SLOT), 2);
        Check.put(boat, Refused.TEXT);
        Check.due("post()", boat.post(), Refused.CLAUSES);
        Check.due("go", boat.go(0), LastBoat.STATE);
        for (int i = 0; i < 3; i++) {
            Check.due("ran(" + i + ")", boat.ran(i), Check.FAR_NONE);
            Check.due("keep(" + i + ")", boat.keep(i), LastBoat.STATE);
            Check.due("take(" + i + ")", boat.take(i), LastBoat.STATE);
        }
        for (int t = 0; t < Refused.THINGS; t++) {
            Check.due("listed(" + t + ")", boat.listed(t), NONE);
            Check.due("stock(" + t + ", 0)", boat.stock(t, 0), NONE);
        }
    }

    // ---- Promise 5

    static void promise05_zeroWithoutAFaultAndAheadOfAny() {
        Check.sentence("Of the latest post(), what 0: its FAULT's KIND, 0 without (and ahead of any), 1: its PLACE (NONE).");
        LastBoat boat = new LastBoat();
        Check.due("KIND ahead of any", boat.fault(0), 0);
        Check.due("PLACE ahead of any", boat.fault(1), NONE);
        Check.put(boat, "weeks 9;");
        Check.due("KIND ahead of post()", boat.fault(0), 0);
        Check.due("post()", boat.post(), NONE);
        Check.due("KIND", boat.fault(0), 2);
        Check.due("PLACE", boat.fault(1), 6);
        Check.put(boat, "weeks 1;");
        Check.due("KIND of the latest still", boat.fault(0), 2);
        Check.due("post()", boat.post(), 1);
        Check.due("KIND without", boat.fault(0), 0);
        Check.due("PLACE without", boat.fault(1), NONE);
    }

    static void promise05_thePlaceMayBe0() {
        Check.sentence("1: its PLACE (NONE).");
        refused("#", SYNTAX_FAULT, 0);
        refused("weeks" + " ".repeat(895), SYNTAX_FAULT, 900);
    }

    static void promise05_noneForAnotherWhat() {
        Check.sentence("NONE for another what.");
        for (int what : new int[] { -1, 2, Integer.MAX_VALUE, Integer.MIN_VALUE }) {
            Refused.stays("fault(" + what + ")", NONE, x -> x.fault(what));
            LastBoat boat = new LastBoat();
            Check.due("ahead of any", boat.fault(what), NONE);
            Check.put(boat, "weeks 9;");
            Check.due("post()", boat.post(), NONE);
            Check.due("fault(" + what + ") with a FAULT", boat.fault(what), NONE);
            Check.due("KIND stays", boat.fault(0), 2);
            Check.due("PLACE stays", boat.fault(1), 6);
        }
    }

    // ---- Promise 6

    static void promise06_noneForOthers() {
        Check.sentence("80 + t: the THING that does for it (NONE). NONE for others.");
        for (int what : new int[] { -1, -10, 5, 9, 90, 91, 93, 100, 110, Integer.MAX_VALUE, Integer.MIN_VALUE }) {
            Refused.stays("told(" + what + ")", NONE, x -> x.told(what));
        }
    }

    static void promise06_noneForAWinterThatIsNot() {
        Check.sentence("10 + w: WEIGHT of WINTER w");
        for (int winters = 0; winters <= 4; winters++) {
            StringBuilder text = new StringBuilder();
            for (int w = 0; w < winters; w++) {
                text.append("winter ").append((char) ('a' + w)).append(w == 0 ? " 10 10 0 0;" : " 0 10 0 0;");
            }
            LastBoat boat = Check.told(text.toString(), winters);
            for (int w = 0; w < 10; w++) {
                Check.due("told(" + (10 + w) + ") of " + winters, boat.told(10 + w), w >= winters ? NONE : w == 0 ? 10 : 0);
            }
        }
    }

    static void promise06_noneForAThingThatIsNot() {
        Check.sentence("20 + t: ROOM of THING t, 30 + t: COST, 40 + t: PAY, 50 + t: LACK, 60 + t: LEFT, 70 + t: SPOIL");
        for (int things = 0; things <= 4; things++) {
            StringBuilder text = new StringBuilder();
            for (int t = 0; t < things; t++) {
                text.append("thing ").append((char) ('a' + t)).append(" 1 2 3 4 5 6;");
            }
            LastBoat boat = Check.told(text.toString(), things);
            for (int row = 2; row < 8; row++) {
                for (int t = 0; t < 10; t++) {
                    Check.due("told(" + (10 * row + t) + ") of " + things, boat.told(10 * row + t), t < things ? row - 1 : NONE);
                }
            }
            for (int t = 0; t < 10; t++) {
                Check.due("told(" + (80 + t) + ") of " + things, boat.told(80 + t), NONE);
            }
        }
    }

    static void promise06_theThingThatDoesForIt() {
        Check.sentence("80 + t: the THING that does for it (NONE).");
        LastBoat boat = Check.told(TWO_THINGS + "thing c 1 2 3 4 5 0;thing d 1 2 3 4 5 0;instead a d 0;instead d a 100;", 6);
        Check.due("what does for a", boat.told(80), 3);
        Check.due("what does for b", boat.told(81), NONE);
        Check.due("what does for c", boat.told(82), NONE);
        Check.due("what does for d", boat.told(83), 0);
        Check.due("told(84)", boat.told(84), NONE);
    }

    // ---- Promise 7

    static void promise07_n0To3And4() {
        Check.sentence("Of what is wanted of a THING in a WINTER in how many of ten weeks n (0 .. 3); n 4: how many of it are NEEDED; RANGE.");
        LastBoat boat = Check.told(WINTER + TWO_THINGS + "want b w 1 2 3 4 3;", 4);
        int[] due = { 1, 2, 3, 4, 3 };
        for (int n = 0; n < 5; n++) {
            Check.due("wants(1, 0, " + n + ")", boat.wants(1, 0, n), due[n]);
        }
        for (int n : new int[] { -1, 5, Integer.MAX_VALUE, Integer.MIN_VALUE }) {
            Refused.stays("wants(0, 0, " + n + ")", RANGE, x -> x.wants(0, 0, n));
        }
    }

    static void promise07_rangeForNoSuchThingOrWinter() {
        Check.sentence("n 4: how many of it are NEEDED; RANGE.");
        for (int bad : new int[] { -1, 2, 4, Integer.MAX_VALUE, Integer.MIN_VALUE }) {
            Refused.stays("wants(" + bad + ", 0, 0)", RANGE, x -> x.wants(bad, 0, 0));
            Refused.stays("wants(0, " + bad + ", 0)", RANGE, x -> x.wants(0, bad, 0));
        }
        Check.isTrue("the last THING and WINTER", Refused.boatWithAll().wants(1, 1, 0) >= 0);
        Check.due("a THING without WINTERS", Check.told(TWO_THINGS, 2).wants(0, 0, 0), RANGE);
        Check.due("a WINTER without THINGS", Check.told(WINTER, 1).wants(0, 0, 0), RANGE);
    }

    static void promise07_untold10WeeksOf0And0Needed() {
        Check.sentence("(Untold: 10 weeks of 0, 0 NEEDED.)");
        LastBoat boat = new LastBoat();
        for (int turn = 0; turn < 3; turn++) {
            again(boat, WINTER + TWO_THINGS + "want a w 0 1 2 7 3;", 4);
            for (int n = 0; n < 5; n++) {
                Check.due("untold " + n, boat.wants(1, 0, n), n == 0 ? 10 : 0);
            }
            again(boat, WINTER + TWO_THINGS, 3);
            for (int n = 0; n < 5; n++) {
                Check.due("no longer told " + n, boat.wants(0, 0, n), n == 0 ? 10 : 0);
            }
            again(boat, WINTER + TWO_THINGS, 3);
            Check.due("nor then", boat.wants(0, 0, 0), 10);
        }
    }

    // ---- Promise 8

    static void promise08_signs0To2OfAWinter() {
        Check.sentence("In how many of ten weeks a WINTER shows a SIGN; RANGE.");
        LastBoat boat = Check.told("winter v 4 1 2 7;winter w 6 0 10 0;", 2);
        int[][] due = { { 1, 2, 7 }, { 0, 10, 0 } };
        for (int sign = 0; sign < 3; sign++) {
            Check.due("signs(0, " + sign + ")", boat.signs(0, sign), due[0][sign]);
            Check.due("signs(1, " + sign + ")", boat.signs(1, sign), due[1][sign]);
        }
    }

    static void promise08_rangeForOthers() {
        Check.sentence("In how many of ten weeks a WINTER shows a SIGN; RANGE.");
        for (int bad : new int[] { -1, 3, Integer.MAX_VALUE, Integer.MIN_VALUE }) {
            Refused.stays("signs(0, " + bad + ")", RANGE, x -> x.signs(0, bad));
        }
        for (int bad : new int[] { -1, 2, 4, Integer.MAX_VALUE, Integer.MIN_VALUE }) {
            Refused.stays("signs(" + bad + ", 0)", RANGE, x -> x.signs(bad, 0));
        }
        Check.due("without WINTERS", Check.told(TWO_THINGS, 2).signs(0, 0), RANGE);
    }

    // ---- Promise 9

    static void promise09_kinds0To2() {
        Check.sentence("RULE of a THING is a kind (0 .. 2) with k: 1; RANGE.");
        LastBoat boat = Check.told("weeks 1;" + WINTER + TWO_THINGS + "want b w 0 0 10 0 0;", 5);
        int[] given = { 20, 0, 10 };
        for (int kind = 0; kind < 3; kind++) {
            Check.due("rule(1, " + kind + ", 40)", boat.rule(1, kind, 40), 1);
            Check.due("GIVEN by kind " + kind, boat.means(1, 3, 0, 0), given[kind]);
        }
        for (int bad : new int[] { -1, 3, Integer.MAX_VALUE, Integer.MIN_VALUE }) {
            Refused.stays("rule(0, " + bad + ", 1)", RANGE, x -> x.rule(0, bad, 1));
        }
    }

    static void promise09_k0To40() {
        Check.sentence("RULE of a THING: FREE (0), KEEP k (1), DEAR k (2), k 0 .. 40 (FREE at first).");
        LastBoat boat = Check.told("weeks 1;" + WINTER + TWO_THINGS + "want a w 0 0 10 0 0;", 5);
        Check.due("KEEP 0", boat.rule(0, 1, 0), 1);
        Check.due("of 2 with KEEP 0", boat.means(0, 2, 0, 0), 20);
        Check.due("KEEP 40", boat.rule(0, 1, 40), 1);
        Check.due("of 40 with KEEP 40", boat.means(0, 40, 0, 0), 0);
        Check.due("DEAR 0", boat.rule(0, 2, 0), 1);
        Check.due("of 1 with DEAR 0", boat.means(0, 1, 0, 2), 10);
        Check.due("of 0 with DEAR 0", boat.means(0, 0, 0, 2), 10);
        Check.due("DEAR 40", boat.rule(0, 2, 40), 1);
        Check.due("of 40 with DEAR 40", boat.means(0, 40, 0, 0), 10);
        for (int kind = 0; kind < 3; kind++) {
            for (int bad : new int[] { -1, 41, Integer.MAX_VALUE, Integer.MIN_VALUE }) {
                int of = kind;
                Refused.stays("rule(0, " + of + ", " + bad + ")", RANGE, x -> x.rule(0, of, bad));
            }
        }
    }

    static void promise09_rangeForNoSuchThing() {
        Check.sentence("RULE of a THING is a kind (0 .. 2) with k: 1; RANGE.");
        Check.due("the last THING", Refused.boatWithAll().rule(1, 0, 0), 1);
        for (int bad : new int[] { -1, 2, 4, Integer.MAX_VALUE, Integer.MIN_VALUE }) {
            Refused.stays("rule(" + bad + ", 0, 0)", RANGE, x -> x.rule(bad, 0, 0));
        }
    }

    static void promise09_oneRuleForEachThing() {
        Check.sentence("RULE of a THING is a kind (0 .. 2) with k: 1; RANGE.");
        LastBoat boat = Check.told("weeks 1;" + WINTER + TWO_THINGS + "want a w 0 0 10 0 0;want b w 0 0 10 0 0;", 6);
        Check.due("rule(1, 1, 40)", boat.rule(1, 1, 40), 1);
        Check.due("the other stays FREE", boat.means(0, 2, 0, 0), 20);
        Check.due("none is given of it", boat.means(1, 2, 0, 0), 0);
        Check.due("rule(1, 0, 0)", boat.rule(1, 0, 0), 1);
        Check.due("FREE again", boat.means(1, 2, 0, 0), 20);
    }
}
