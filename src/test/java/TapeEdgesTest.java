import java.util.Arrays;
import java.util.function.ToLongFunction;

/** The edges of the tape and of the object: Term I, promises 2, 3 and 34, and the 512 calls. */
public final class TapeEdgesTest {
    private static final int NONE = LastBoat.NONE;
    private static final int BLANKS = 0x20202020;
    private static final int CROSSES = 0x23232323;

    public static void main(String[] args) {
        Sentences.run(TapeEdgesTest.class);
    }

    /** A text of so many bytes: a clause at its begin, a clause at its very end, blanks between. */
    private static String textOf(int bytes) {
        return "weeks 2;" + " ".repeat(bytes - 16) + "cases 7;";
    }

    private static int feedCrosses(LastBoat boat) {
        return boat.feed(CROSSES, CROSSES, CROSSES, CROSSES, CROSSES);
    }

    static void face_fourConstants() {
        Check.sentence("public static final int NONE = -1;");
        Check.sentence("`NONE = -1`: There is none.");
        Check.due("NONE", LastBoat.NONE, -1);
        Check.sentence("`RANGE = -2`: A number that can't be.");
        Check.due("RANGE", LastBoat.RANGE, -2);
        Check.sentence("`FULL = -3`: No room.");
        Check.due("FULL", LastBoat.FULL, -3);
        Check.sentence("`STATE = -4`: Not as things are.");
        Check.due("STATE", LastBoat.STATE, -4);
    }

    static void termI_tapeHasAtMost900Bytes() {
        Check.sentence("THE TAPE has at most 900 bytes");
        LastBoat boat = new LastBoat();
        for (int feeds = 1; feeds <= 45; feeds++) {
            Check.due("feed " + feeds, boat.feed(BLANKS, BLANKS, BLANKS, BLANKS, BLANKS), 20 * feeds);
        }
        Check.due("a byte above 900", feedCrosses(boat), LastBoat.FULL);
        Check.due("bytes", boat.count(1), 900);
        Check.due("end(900)", boat.end(900), 900);
        Check.due("end(901)", boat.end(901), NONE);
        Check.due("900 blanks are a POST", boat.post(), 0);
    }

    static void termI_aTextOf900BytesIsReadToItsLastByte() {
        Check.sentence("THE TAPE has at most 900 bytes");
        LastBoat boat = Check.told(textOf(900), 2);
        Check.due("the clause at the very end", boat.told(1), 7);
        Check.put(boat, textOf(900).substring(0, 899) + "#");
        Check.due("post()", boat.post(), NONE);
        Check.due("PLACE of the 900th byte", boat.fault(1), 899);
        Check.put(boat, " " + textOf(900).substring(0, 899));
        Check.due("post()", boat.post(), NONE);
        Check.due("PLACE of the end of 900 bytes", boat.fault(1), 900);
    }

    static void termI_tapeWithNoByte() {
        Check.sentence("each call that reads it empties it, whatever it tells");
        LastBoat boat = new LastBoat();
        Check.due("bytes at first", boat.count(1), 0);
        Check.due("post() of no byte", boat.post(), 0);
        Check.due("its FAULT", boat.fault(0), 0);
        Check.due("bytes then", boat.count(1), 0);
        Check.due("feed behind that", feedCrosses(boat), 20);
    }

    /** The call empties the tape, answered so; what is fed then stands at the tape's begin. */
    private static void empties(String call, LastBoat boat, String onTape, long due, ToLongFunction<LastBoat> made) {
        Check.put(boat, onTape);
        Check.due(call, made.applyAsLong(boat), due);
        Check.due("bytes behind " + call, boat.count(1), 0);
        Check.due("end(1) behind " + call, boat.end(1), NONE);
        Check.due("feed behind " + call, boat.feed(BLANKS, BLANKS, BLANKS, BLANKS, BLANKS), 20);
    }

    static void termI_callsThatReadTheTapeEmptyItWhenTheyAreAnswered() {
        Check.sentence("each call that reads it empties it, whatever it tells");
        LastBoat boat = Check.told("weeks 1;winter w 10 10 0 0;thing t 1 1 0 0 2 0;", 3);
        empties("next()", boat, "0", 0, LastBoat::next);
        empties("think(0, false)", boat, "00", 1, x -> x.think(0, false));
        empties("after(0)", boat, "00", 40, x -> x.after(0));
        empties("begin(1)", boat, "5", 0, x -> x.begin(1));
        empties("post()", boat, "cases 3;", 1, LastBoat::post);
    }

    static void termI_callsThatReadTheTapeEmptyItWhenTheyAreRefused() {
        Check.sentence("each call that reads it empties it, whatever it tells");
        LastBoat boat = Check.told("weeks 1;winter w 10 10 0 0;thing t 1 1 0 0 2 0;", 3);
        LastBoat bare = Check.told("thing t 1 1 0 0 2 0;", 1);
        empties("post() with a FAULT", boat, "weeks 2;#", NONE, LastBoat::post);
        empties("next(), no such row", boat, "00", NONE, LastBoat::next);
        empties("next(), none grows", boat, "X", NONE, LastBoat::next);
        empties("next(), no WINTERS", bare, "0", LastBoat.STATE, LastBoat::next);
        empties("think(0), no such row", boat, "3", NONE, x -> x.think(0, true));
        empties("think(0), none shows them", boat, "1", NONE, x -> x.think(0, true));
        empties("think(1), no such WINTER", boat, "0", LastBoat.RANGE, x -> x.think(1, true));
        empties("after(0), no such row", boat, "3", NONE, x -> x.after(0));
        empties("after(0), none shows them", boat, "1", NONE, x -> x.after(0));
        empties("after(1), no such THING", boat, "0", LastBoat.RANGE, x -> x.after(1));
        empties("after(0), no WINTERS", bare, "0", NONE, x -> x.after(0));
        empties("begin(-1)", boat, "0", LastBoat.RANGE, x -> x.begin(-1));
        empties("begin(1), no such row", boat, "00", NONE, x -> x.begin(1));
        empties("begin(1), no WINTERS", bare, "0", LastBoat.STATE, x -> x.begin(1));
    }

    static void termI_callsThatDoNotReadTheTapeLeaveIt() {
        Check.sentence("each call that reads it empties it, whatever it tells");
        LastBoat boat = Refused.boatWithAll();
        boat.fault(0);
        boat.told(0);
        boat.wants(0, 0, 0);
        boat.signs(0, 0);
        boat.rule(0, 0, 0);
        boat.means(0, 1, 0, 0);
        boat.score(0, 1, 0);
        boat.safe(0, 1, 0, true);
        boat.one(0);
        boat.keeps(0, 1);
        boat.sure(0, 2);
        boat.worth(0, 0, 1);
        boat.list();
        boat.listed(0);
        boat.instead(0, 1, 1, 0);
        boat.sledge(0, 1, 0, 1, 1, 1);
        boat.when(0, 1, 1, 1, 1);
        boat.second(0, 1, 1);
        boat.forTwo(0, 1);
        boat.trust(1);
        boat.go(1);
        boat.stock(0, 0);
        boat.ran(0);
        boat.keep(0);
        boat.take(0);
        boat.count(0);
        Check.due("bytes", boat.count(1), 16);
        Check.due("the text is still there", boat.post(), 2);
    }

    static void promise02_twentyBytesTheHighestOfEachIntFirst() {
        Check.sentence("Twenty bytes come behind THE TAPE, the highest of each int first: how many it has");
        for (int place = 0; place < 20; place++) {
            int[] five = new int[5];
            Arrays.fill(five, BLANKS);
            int shift = 24 - place % 4 * 8;
            // 163 has the highest bit of a byte: as a number of its own it would be below 0.
            five[place / 4] = five[place / 4] & ~(255 << shift) | 163 << shift;
            LastBoat boat = new LastBoat();
            Check.due("feed", boat.feed(five[0], five[1], five[2], five[3], five[4]), 20);
            Check.due("post()", boat.post(), NONE);
            Check.due("PLACE of the byte that is none", boat.fault(1), place);
        }
    }

    static void promise02_theyComeBehindWhatTheTapeHas() {
        Check.sentence("Twenty bytes come behind THE TAPE");
        LastBoat boat = new LastBoat();
        Check.put(boat, "weeks 2;");
        Check.due("20 bytes behind 8", feedCrosses(boat), 28);
        Check.due("post()", boat.post(), NONE);
        Check.due("PLACE of the first of them", boat.fault(1), 8);
    }

    static void promise02_fullWhenThereWouldBeMoreThan900() {
        Check.sentence("FULL when there would be more than 900.");
        for (int bytes = 879; bytes <= 900; bytes++) {
            LastBoat boat = new LastBoat();
            Check.put(boat, textOf(bytes));
            Check.due("feed behind " + bytes, feedCrosses(boat), bytes <= 880 ? bytes + 20 : LastBoat.FULL);
            Check.due("bytes then", boat.count(1), bytes <= 880 ? bytes + 20 : bytes);
        }
    }

    static void promise02_fullLeavesTheTape() {
        Check.sentence("FULL when there would be more than 900.");
        for (int bytes : new int[] { 881, 890, 899, 900 }) {
            LastBoat boat = new LastBoat();
            Check.put(boat, textOf(bytes));
            Check.due("feed behind " + bytes, feedCrosses(boat), LastBoat.FULL);
            Check.due("feed again", feedCrosses(boat), LastBoat.FULL);
            Check.due("its bytes stay", boat.count(1), bytes);
            Check.due("no byte of them came", boat.post(), 2);
            Check.due("the clause at its very end", boat.told(1), 7);
        }
    }

    static void promise03_theFirstNBytesAlone() {
        Check.sentence("THE TAPE has its first n bytes alone: n");
        LastBoat boat = new LastBoat();
        Check.put(boat, "weeks 2;cases 7;####");
        Check.due("end(20), all it has", boat.end(20), 20);
        Check.due("end(16)", boat.end(16), 16);
        Check.due("post() of the first 16", boat.post(), 2);
        Check.put(boat, "weeks 2;cases 7;####");
        Check.due("end(1)", boat.end(1), 1);
        Check.due("end(0)", boat.end(0), 0);
        Check.due("bytes", boat.count(1), 0);
        Check.due("post() of none", boat.post(), 0);
    }

    static void promise03_noneWhenItHasNotSoMany() {
        Check.sentence("NONE when it has not so many, or n is below 0.");
        LastBoat boat = new LastBoat();
        Check.due("end(0) of none", boat.end(0), 0);
        Check.due("end(1) of none", boat.end(1), NONE);
        Check.put(boat, "weeks 2;");
        Check.due("end(9) of 8", boat.end(9), NONE);
        Check.due("end(greatest) of 8", boat.end(Integer.MAX_VALUE), NONE);
        Check.due("its bytes stay", boat.count(1), 8);
        Check.due("end(8) of 8", boat.end(8), 8);
        Check.due("the text stays", boat.post(), 1);
        Check.put(boat, textOf(900));
        Check.due("end(901) of 900", boat.end(901), NONE);
        Check.due("end(900) of 900", boat.end(900), 900);
        Refused.stays("end(17) of 16", NONE, x -> x.end(17));
    }

    static void promise03_noneBelow0() {
        Check.sentence("NONE when it has not so many, or n is below 0.");
        Refused.stays("end(-1)", NONE, x -> x.end(-1));
        Refused.stays("end(least)", NONE, x -> x.end(Integer.MIN_VALUE));
        Check.due("end(-1) of none", new LastBoat().end(-1), NONE);
    }

    static void promise34_clausesAndBytes() {
        Check.sentence("What 0: clauses of the POST, 1: bytes of THE TAPE.");
        LastBoat boat = new LastBoat();
        Check.due("clauses at first", boat.count(0), 0);
        Check.due("bytes at first", boat.count(1), 0);
        Check.put(boat, textOf(900));
        Check.due("bytes of a full tape", boat.count(1), 900);
        Check.due("clauses ahead of post()", boat.count(0), 0);
        Check.due("post()", boat.post(), 2);
        Check.due("clauses", boat.count(0), 2);
        Check.put(boat, "cases 1;#");
        Check.due("post() with a FAULT", boat.post(), NONE);
        Check.due("clauses of the POST that stays", boat.count(0), 2);
        Check.due("post() of no byte", boat.post(), 0);
        Check.due("clauses of none", boat.count(0), 0);
    }

    static void promise34_noneForOthers() {
        Check.sentence("What 0: clauses of the POST, 1: bytes of THE TAPE. NONE for others.");
        for (int what : new int[] { -1, 2, 3, Integer.MAX_VALUE, Integer.MIN_VALUE }) {
            Refused.stays("count(" + what + ")", NONE, x -> x.count(what));
        }
    }

    /** The dearest texts and calls again and again: the 512th call is answered as a young object answers it. */
    static void limit_512CallsOfOneObject() {
        Check.sentence("An object is used for at most 512 calls after it has been made; what later calls answer is free.");
        LastBoat old = new LastBoat();
        int calls = 0;
        while (calls < 506) {
            old.feed(0x7765656b, 0x7320353b, BLANKS, BLANKS, BLANKS);
            old.post();
            calls += 2;
        }
        Check.due("call 507", old.feed(0x63617365, 0x7320393b, BLANKS, BLANKS, BLANKS), 20);
        Check.due("call 508", old.post(), 1);
        Check.due("call 509", old.told(0), 4);
        Check.due("call 510", old.told(1), 9);
        Check.due("call 511", old.fault(1), NONE);
        Check.due("call 512", old.count(0), 1);
    }

    static void limit_512CallsThatReckon() {
        Check.sentence("An object is used for at most 512 calls after it has been made; what later calls answer is free.");
        LastBoat old = Check.told(Refused.TEXT, Refused.CLAUSES);
        LastBoat young = Check.told(Refused.TEXT, Refused.CLAUSES);
        int told = 2 + 1 + (Refused.TEXT.length() + 19) / 20 + 2;
        int turns = (511 - told) / 6;
        for (int turn = 0; turn < turns; turn++) {
            old.list();
            old.instead(0, 20, 20, 1);
            old.keeps(turn % 2, 40);
            old.second(0, turn % 41, 5);
            old.when(1, turn % 41, 40, 20, 3);
            old.sure(0, 1 + turn);
        }
        for (int more = told + 6 * turns; more < 511; more++) {
            old.forTwo(0, 3);
        }
        Check.due("call 512", old.instead(0, 20, 19, 0), young.instead(0, 20, 19, 0));
    }

    static void limit_512CallsOfARun() {
        Check.sentence("An object is used for at most 512 calls after it has been made; what later calls answer is free.");
        LastBoat old = Refused.boatWithAll();
        LastBoat young = Refused.boatWithAll();
        for (int turn = 0; turn < 110; turn++) {
            Check.due("take(0)", old.take(0), 0);
            Check.due("go(1)", old.go(1), 1);
            Check.due("keep(2)", old.keep(2), 1);
            Check.due("go(1)", old.go(1), 2);
        }
        Check.due("the RUN", old.ran(2), young.ran(2));
        Check.due("its STOCK", old.stock(0, 0), young.stock(0, 0));
    }
}
