/** Promises 2, 3 and 34, and that each call that reads the tape empties it. */
public final class TapeTest {
    public static void main(String[] args) {
        feeds();
        ends();
        bytesComeInOrder();
        readersEmptyIt();
        counts();
        Check.finish("TapeTest");
    }

    private static void feeds() {
        LastBoat boat = new LastBoat();
        for (int i = 1; i <= 45; i++) {
            Check.due("feed " + i, boat.feed(1, 2, 3, 4, 5), 20 * i);
        }
        Check.due("feed above 900", boat.feed(1, 2, 3, 4, 5), LastBoat.FULL);
        Check.due("count(1) of a full tape", boat.count(1), 900);
        Check.due("end(881)", boat.end(881), 881);
        Check.due("feed above 900 by one", boat.feed(1, 2, 3, 4, 5), LastBoat.FULL);
        Check.due("count(1) behind that", boat.count(1), 881);
        Check.due("end(880)", boat.end(880), 880);
        Check.due("feed up to 900", boat.feed(1, 2, 3, 4, 5), 900);
    }

    private static void ends() {
        LastBoat boat = new LastBoat();
        Check.due("end(0) of nothing", boat.end(0), 0);
        Check.due("end(1) of nothing", boat.end(1), LastBoat.NONE);
        boat.feed(0, 0, 0, 0, 0);
        Check.due("end(21)", boat.end(21), LastBoat.NONE);
        Check.due("end(-1)", boat.end(-1), LastBoat.NONE);
        Check.due("end(least)", boat.end(Integer.MIN_VALUE), LastBoat.NONE);
        Check.due("nothing is cut then", boat.count(1), 20);
        Check.due("end(20)", boat.end(20), 20);
        Check.due("end(7)", boat.end(7), 7);
        Check.due("end(8)", boat.end(8), LastBoat.NONE);
        Check.due("feed behind it", boat.feed(0, 0, 0, 0, 0), 27);
    }

    private static void bytesComeInOrder() {
        LastBoat boat = new LastBoat();
        Check.due("feed", boat.feed(0x63617365, 0x73203132, 0x3b202020, 0x20202020, 0x20202020), 20);
        Check.due("post()", boat.post(), 1);
        Check.due("cases", boat.told(1), 12);
    }

    private static void readersEmptyIt() {
        LastBoat bare = new LastBoat();
        LastBoat boat = Check.told("winter a 10 10 0 0;thing t 1 1 1 1 1 0;", 2);
        for (LastBoat each : new LastBoat[] { bare, boat }) {
            for (int call = 0; call < 9; call++) {
                Check.put(each, "0123456789");
                read(each, call);
                Check.due("count(1) behind reading call " + call, each.count(1), 0);
            }
            for (int call = 0; call < 3; call++) {
                Check.put(each, "0123456789");
                each.told(call);
                each.list();
                each.go(1);
                Check.due("count(1) behind another call", each.count(1), 10);
            }
        }
    }

    private static void read(LastBoat boat, int call) {
        switch (call) {
            case 0: boat.next(); break;
            case 1: boat.think(0, true); break;
            case 2: boat.think(-1, true); break;
            case 3: boat.think(4, true); break;
            case 4: boat.after(0); break;
            case 5: boat.after(9); break;
            case 6: boat.begin(1); break;
            case 7: boat.begin(-1); break;
            default: boat.post(); break;
        }
    }

    private static void counts() {
        LastBoat boat = new LastBoat();
        Check.due("count(0)", boat.count(0), 0);
        Check.due("count(1)", boat.count(1), 0);
        Check.due("count(2)", boat.count(2), LastBoat.NONE);
        Check.due("count(-1)", boat.count(-1), LastBoat.NONE);
        Check.put(boat, "weeks 3;cases 7;");
        Check.due("count(1) told", boat.count(1), 16);
        boat.post();
        Check.due("count(0) told", boat.count(0), 2);
        Check.put(boat, "weeks 0;");
        boat.post();
        Check.due("count(0) behind a fault", boat.count(0), 2);
    }
}
