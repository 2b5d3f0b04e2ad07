import java.util.function.Consumer;
import java.util.function.ToLongFunction;

/**
 * Refused calls: each is made on a boat that has everything (a post, rules, a list, a run, two of three slots,
 * a text on the tape), which then answers all calls as another such boat on which it was not made.
 */
final class Refused {
    static final String TEXT = "weeks 3;cases 12;winter a 4 5 3 2;winter b 6 1 2 7;thing t 2 3 9 20 1 3;"
        + "thing u 1 1 4 0 2 0;want t a 2 3 3 2 1;want t b 0 5 0 5 2;want u b 1 1 4 4 2;instead u t 50;family f 9 10 20;";
    static final int CLAUSES = 11;
    static final int THINGS = 2;
    static final int WINTERS = 2;
    static final int EMPTY_SLOT = 1;
    private static final String ON_TAPE = "weeks 2;cases 5;";

    private Refused() {
    }

    static LastBoat boatWithAll() {
        LastBoat boat = Check.told(TEXT, CLAUSES);
        Check.due("KEEP 2", boat.rule(0, 1, 2), 1);
        Check.due("DEAR 3", boat.rule(1, 2, 3), 1);
        Check.isTrue("a list", boat.list() != Check.FAR);
        Check.putRow(boat, 5, 6);
        Check.isTrue("a RUN", boat.begin(77) >= 0);
        Check.due("keep at first", boat.keep(0), 0);
        Check.due("a week", boat.go(1), 1);
        Check.due("keep then", boat.keep(2), 1);
        Check.due("another week", boat.go(1), 2);
        Check.put(boat, ON_TAPE);
        return boat;
    }

    /** The call is answered so, and all stays. */
    static void stays(String call, long due, ToLongFunction<LastBoat> made) {
        LastBoat boat = boatWithAll();
        Check.due(call, made.applyAsLong(boat), due);
        LastBoat other = boatWithAll();
        faultsAlike(call, boat, other);
        alike(call, boat, other);
    }

    /** The call reads the tape: it is answered so, and all but the tape stays. */
    static void staysButTape(String call, long due, Consumer<LastBoat> ahead, ToLongFunction<LastBoat> made) {
        LastBoat boat = boatWithAll();
        ahead.accept(boat);
        Check.due(call, made.applyAsLong(boat), due);
        Check.due(call + " empties the tape", boat.count(1), 0);
        LastBoat other = boatWithAll();
        other.end(0);
        faultsAlike(call, boat, other);
        alike(call, boat, other);
    }

    /** The text is refused with that fault, and all but the tape and the fault stays. */
    static void postStays(String text, int kind, int place) {
        LastBoat boat = boatWithAll();
        Check.put(boat, text);
        Check.due("post() of " + text, boat.post(), LastBoat.NONE);
        Check.due("fault(0) of " + text, boat.fault(0), kind);
        Check.due("fault(1) of " + text, boat.fault(1), place);
        LastBoat other = boatWithAll();
        other.end(0);
        alike(text, boat, other);
    }

    private static void faultsAlike(String call, LastBoat boat, LastBoat other) {
        Check.due("fault(0) behind " + call, boat.fault(0), other.fault(0));
        Check.due("fault(1) behind " + call, boat.fault(1), other.fault(1));
    }

    private static void alike(String call, LastBoat boat, LastBoat other) {
        String behind = " behind " + call;
        for (int what = 0; what < 90; what++) {
            Check.due("told(" + what + ")" + behind, boat.told(what), other.told(what));
        }
        for (int winter = 0; winter < WINTERS; winter++) {
            for (int sign = 0; sign < 3; sign++) {
                Check.due("signs" + behind, boat.signs(winter, sign), other.signs(winter, sign));
            }
        }
        Check.due("trust" + behind, boat.trust(10), other.trust(10));
        Check.due("clauses" + behind, boat.count(0), other.count(0));
        Check.due("bytes" + behind, boat.count(1), other.count(1));
        for (int thing = 0; thing < THINGS; thing++) {
            thingAlike(behind, thing, boat, other);
        }
        runAlike(behind, boat, other);
        for (int slot = 0; slot < 3; slot++) {
            Check.due("take(" + slot + ")" + behind, boat.take(slot), other.take(slot));
            runAlike(" with SLOT " + slot + behind, boat, other);
        }
        Check.due("post()" + behind, boat.post(), other.post());
        Check.due("cases of the text on the tape" + behind, boat.told(1), other.told(1));
    }

    private static void thingAlike(String behind, int thing, LastBoat boat, LastBoat other) {
        for (int n = 0; n < 5; n++) {
            for (int winter = 0; winter < WINTERS; winter++) {
                Check.due("wants" + behind, boat.wants(thing, winter, n), other.wants(thing, winter, n));
            }
            for (int q = 2; q < 5; q++) {
                Check.due("means, by the RULE" + behind, boat.means(thing, q, -1, n), other.means(thing, q, -1, n));
            }
        }
        Check.due("listed" + behind, boat.listed(thing), other.listed(thing));
    }

    /** What the run is, and, a week on, that it goes on by the same numbers. */
    private static void runAlike(String behind, LastBoat boat, LastBoat other) {
        for (int turn = 0; turn < 2; turn++) {
            for (int what = 0; what < 3; what++) {
                Check.due("ran(" + what + ")" + behind, boat.ran(what), other.ran(what));
            }
            for (int what = 0; what < 6; what++) {
                Check.due("stock(0, " + what + ")" + behind, boat.stock(0, what), other.stock(0, what));
                Check.due("stock(1, " + what + ")" + behind, boat.stock(1, what), other.stock(1, what));
            }
            Check.due("go(1)" + behind, boat.go(1), other.go(1));
        }
    }
}
