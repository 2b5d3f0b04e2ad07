import java.util.Random;

/** Promises 1 and 4 to 9: a post as a text, its faults, and what it told. */
public final class PostTest {
    private static final String THING = "thing a 1 2 3 4 5 0;";
    private static final String WINTER = "winter a 10 10 0 0;";

    public static void main(String[] args) {
        newObject();
        tells();
        tokens();
        syntax();
        range();
        twice();
        room();
        unknown();
        late();
        sums();
        firstAndLeast();
        faultStays();
        postForgets();
        wantsAndSigns();
        rules();
        mutations();
        Check.finish("PostTest");
    }

    private static void newObject() {
        LastBoat boat = new LastBoat();
        Check.due("WEEKS", boat.told(0), 4);
        Check.due("cases", boat.told(1), 40);
        for (int what = 2; what <= 4; what++) {
            Check.due("told(" + what + ")", boat.told(what), 0);
        }
        for (int what = 5; what <= 120; what++) {
            Check.due("told(" + what + ")", boat.told(what), LastBoat.NONE);
        }
        Check.due("fault(0)", boat.fault(0), 0);
        Check.due("fault(1)", boat.fault(1), LastBoat.NONE);
        Check.due("fault(2)", boat.fault(2), LastBoat.NONE);
        Check.due("fault(-1)", boat.fault(-1), LastBoat.NONE);
        Check.due("clauses", boat.count(0), 0);
    }

    private static void tells() {
        LastBoat boat = Check.told("weeks 5;cases 99;winter a 3 1 2 7;winter b 7 0 10 0;thing a 9 98 97 500 96 9;"
            + "thing b 1 0 1 2 3 2;thing c 2 4 5 6 7 0;instead a b 100;instead b a 0;"
            + "family a 0 1 0;family b 10 500 500;family c 1 2 3;", 12);
        int[] due = { 5, 99, 2, 3, 3 };
        for (int i = 0; i < 5; i++) {
            Check.due("told(" + i + ")", boat.told(i), due[i]);
        }
        Check.due("WEIGHT 0", boat.told(10), 3);
        Check.due("WEIGHT 1", boat.told(11), 7);
        Check.due("WEIGHT 2", boat.told(12), LastBoat.NONE);
        int[][] things = { { 9, 98, 97, 500, 96, 9, 1 }, { 1, 0, 1, 2, 3, 2, 0 }, { 2, 4, 5, 6, 7, 0, -1 } };
        for (int t = 0; t < 3; t++) {
            for (int i = 0; i < 7; i++) {
                Check.due("told of thing", boat.told(20 + 10 * i + t), things[t][i]);
            }
        }
        for (int what : new int[] { -1, 5, 9, 13, 19, 23, 29, 83, 90, 91, 100, Integer.MAX_VALUE, Integer.MIN_VALUE }) {
            Check.due("told(" + what + ")", boat.told(what), LastBoat.NONE);
        }
    }

    private static void faultDue(String text, int kind, int place) {
        LastBoat boat = new LastBoat();
        Check.put(boat, text);
        Check.due("post() of " + text, boat.post(), LastBoat.NONE);
        Check.due("fault(0) of " + text, boat.fault(0), kind);
        Check.due("fault(1) of " + text, boat.fault(1), place);
        Check.due("fault(2) of " + text, boat.fault(2), LastBoat.NONE);
    }

    /** What stood behind the text before end() cut it off is no part of it. */
    private static void cutOff(String text, String behind, int kind, int place) {
        LastBoat boat = new LastBoat();
        Check.put(boat, text + behind);
        boat.end(text.length());
        boat.post();
        Check.due("fault(0) of " + text, boat.fault(0), kind);
        Check.due("fault(1) of " + text, boat.fault(1), place);
    }

    private static void tokens() {
        Check.told("", 0);
        Check.told(" \n ", 0);
        Check.told("thing az 1 2 3 4 5 0;thing za 1 2 3 4 5 0;instead az za 5;", 3);
        Check.told("weeks3;cases004;", 2);
        Check.told("\n\nweeks\n3 ;\n", 1);
        Check.told("thing abcdefgh1 2 3 4 5 0;thing thing 1 2 3 4 5 0;thing weeks 1 2 3 4 5 0;", 3);
        Check.told("winter a 10 10 0 0;thing a 1 2 3 4 5 0;family a 1 1 1;want a a 10 0 0 0 0;", 4);
    }

    private static void syntax() {
        faultDue("week 3;", 1, 0);
        faultDue("aeeks 3;", 1, 0);
        faultDue("weekz 3;", 1, 0);
        cutOff("weeks 5", "5;", 1, 7);
        cutOff("thing", "s", 1, 5);
        cutOff("weeks ", "5;", 1, 6);
        cutOff("weeks 1;", "#", 0, LastBoat.NONE);
        cutOff("weeks 1;cases 1", "2345;", 1, 15);
        cutOff("thing abcdefgh", "i", 1, 14);
        cutOff("cases 123", "4", 2, 6);
        faultDue("weekss 3;", 1, 0);
        faultDue("3;", 1, 0);
        faultDue(";", 1, 0);
        faultDue("weeks", 1, 5);
        faultDue("weeks ", 1, 6);
        faultDue("weeks;", 1, 5);
        faultDue("weeks a;", 1, 6);
        faultDue("weeks 3", 1, 7);
        faultDue("weeks 3 cases 4;", 1, 8);
        faultDue("weeks 3 4;", 1, 8);
        faultDue("weeks 3;;", 1, 8);
        faultDue("weeks 3,", 1, 7);
        faultDue("weeks 0003;", 1, 6);
        faultDue("weeks 99999999999999999999;", 1, 6);
        faultDue("thing abcdefghi 1 2 3 4 5 0;", 1, 6);
        faultDue("Weeks 3;", 1, 0);
        faultDue("weeks\t3;", 1, 5);
        faultDue("weeks \r3;", 1, 6);
        faultDue("weeks 3;" + (char) 200, 1, 8);
        faultDue("weeks 3;" + (char) 0, 1, 8);
        faultDue("thing 1 1 2 3 4 5 0;", 1, 6);
        faultDue("thing a 1 2 3 4 5;", 1, 17);
        faultDue("thing a 1 2 3 4 5 0 0;", 1, 20);
        faultDue("winter a 10 10 0;", 1, 16);
        faultDue("winter a 10 10 0 0 0;", 1, 19);
        faultDue(THING + WINTER + "want a a 10 0 0 0;", 1, 56);
        faultDue(THING + WINTER + "want a 10 0 0 0 0;", 1, 46);
        faultDue(THING + "thing b 1 2 3 4 5 0;instead a b;", 1, 51);
        faultDue("family a 1 1;", 1, 12);
    }

    private static void range() {
        faultDue("weeks 0;", 2, 6);
        faultDue("weeks 6;", 2, 6);
        faultDue("cases 100;", 2, 6);
        faultDue("winter a 11 10 0 0;", 2, 9);
        faultDue("winter a 10 11 0 0;", 2, 12);
        faultDue("winter a 10 0 11 0;", 2, 14);
        faultDue("winter a 10 0 0 11;", 2, 16);
        faultDue("thing a 0 1 1 1 1 0;", 2, 8);
        faultDue("thing a 10 1 1 1 1 0;", 2, 8);
        faultDue("thing a 1 100 1 1 1 0;", 2, 10);
        faultDue("thing a 1 1 100 1 1 0;", 2, 12);
        faultDue("thing a 1 1 1 501 1 0;", 2, 14);
        faultDue("thing a 1 1 1 1 100 0;", 2, 16);
        faultDue("thing a 1 1 1 1 1 1;", 2, 18);
        faultDue("thing a 1 1 1 1 1 10;", 2, 18);
        faultDue(THING + WINTER + "want a a 11 0 0 0 0;", 2, 48);
        faultDue(THING + WINTER + "want a a 0 0 0 11 0;", 2, 54);
        faultDue(THING + WINTER + "want a a 10 0 0 0 4;", 2, 57);
        faultDue(THING + "thing b 1 2 3 4 5 0;instead a b 101;", 2, 52);
        faultDue("family a 11 1 1;", 2, 9);
        faultDue("family a 1 0 1;", 2, 11);
        faultDue("family a 1 501 1;", 2, 11);
        faultDue("family a 1 1 501;", 2, 13);
        Check.told("weeks 1;cases 0;" + "thing a 9 99 99 500 99 9;thing b 1 0 0 0 0 2;", 4);
    }

    private static void twice() {
        faultDue("weeks 1;weeks 1;", 3, 8);
        faultDue("weeks 1;cases 1;weeks 1;", 3, 16);
        faultDue("cases 1;cases 1;", 3, 8);
        faultDue("winter a 5 10 0 0;winter a 5 10 0 0;", 3, 25);
        faultDue("thing a 1 2 3 4 5 0;thing a 1 2 3 4 5 0;", 3, 26);
        faultDue("family a 1 1 1;family a 1 1 1;", 3, 22);
        faultDue(THING + WINTER + "want a a 10 0 0 0 0;want a a 10 0 0 0 0;", 3, 66);
        faultDue(THING + "instead a a 1;", 3, 30);
        faultDue(THING + "thing b 1 2 3 4 5 0;thing c 1 2 3 4 5 0;instead a b 1;instead c b 1;", 3, 84);
        faultDue(THING + "thing b 1 2 3 4 5 0;instead a b 1;instead a b 1;", 3, 64);
        Check.told(THING + "thing ab 1 2 3 4 5 0;thing b 1 2 3 4 5 0;instead a b 1;instead a ab 1;instead b a 1;", 6);
    }

    private static void room() {
        String winters = "winter a 10 10 0 0;winter b 0 10 0 0;winter c 0 10 0 0;winter d 0 10 0 0;";
        Check.told(winters, 4);
        faultDue(winters + "winter a", 4, winters.length());
        String things = THING + "thing b 1 2 3 4 5 0;thing c 1 2 3 4 5 0;thing d 1 2 3 4 5 0;";
        Check.told(things, 4);
        faultDue(things + " thing", 4, things.length() + 1);
        StringBuilder families = new StringBuilder();
        for (char name = 'a'; name < 'g'; name++) {
            families.append("family ").append(name).append(" 1 1 1;");
        }
        Check.told(families.toString(), 6);
        faultDue(families + "family g 1 1 1;", 4, families.length());
    }

    private static void unknown() {
        faultDue("want a b 10 0 0 0 0;", 5, 5);
        faultDue(WINTER + "want a a 10 0 0 0 0;", 5, 24);
        faultDue(THING + "want a a 10 0 0 0 0;", 5, 27);
        faultDue(THING + "instead b a 1;", 5, 28);
        faultDue(THING + "instead a b 1;", 5, 30);
        faultDue(THING + "instead aa a 1;", 5, 28);
    }

    private static void late() {
        faultDue("cases 1;weeks 1;", 6, 8);
        faultDue("family a 1 1 1;weeks 9;", 6, 15);
        faultDue(THING + "weeks", 6, 20);
    }

    private static void sums() {
        faultDue("winter a 10 5 5 1;", 7, 16);
        faultDue("winter a 10 5 4 0;", 7, 16);
        faultDue("winter a 10 10 10 10;", 7, 18);
        faultDue("winter a 9 10 0 0; ", 7, 19);
        faultDue("winter a 0 10 0 0;", 7, 18);
        faultDue("winter a 5 10 0 0;winter b 6 0 0 10;", 7, 36);
        faultDue(THING + WINTER + "want a a 3 3 3 2 0;", 7, 54);
        faultDue(THING + WINTER + "want a a 3 3 3 0 9;", 7, 54);
        Check.told("winter a 5 0 0 10;winter b 5 3 3 4;", 2);
    }

    private static void firstAndLeast() {
        faultDue("weeks 9;#", 2, 6);
        faultDue("winter a 9 10 0 0", 1, 17);
        faultDue("winter a 9 10 0 0;cases", 1, 23);
        faultDue("winter a 1 9 9 11;", 2, 15);
        faultDue("cases 1;weeks 1;weeks 1;", 6, 8);
    }

    private static void faultStays() {
        LastBoat boat = Check.told("weeks 2;" + WINTER + THING + "want a a 0 10 0 0 1;", 4);
        boat.rule(0, 1, 3);
        long kept = boat.means(0, 3, 0, 0);
        boat.list();
        Check.putRow(boat, 5);
        boat.begin(7);
        boat.keep(1);
        boat.go(1);
        Check.put(boat, "weeks 5;thing b 9 9 9 9 9 9;winter c 1 0 0 10;");
        Check.due("post() with a fault", boat.post(), LastBoat.NONE);
        Check.due("its KIND", boat.fault(0), 7);
        Check.due("WEEKS stay", boat.told(0), 2);
        Check.due("the THING stays", boat.told(20), 1);
        Check.due("clauses stay", boat.count(0), 4);
        Check.due("the RULE stays", boat.means(0, 3, 0, 0), kept);
        Check.due("the RUN stays", boat.ran(0), 1);
        Check.due("the SLOT stays", boat.take(1), 0);
        Check.isTrue("the list stays", boat.listed(0) >= 0);
        Check.put(boat, "cases 3;");
        Check.due("post() without one", boat.post(), 1);
        Check.due("no KIND then", boat.fault(0), 0);
        Check.due("no PLACE then", boat.fault(1), LastBoat.NONE);
        Check.due("WEEKS are as at first", boat.told(0), 4);
    }

    private static void postForgets() {
        String text = "weeks 2;" + WINTER + THING + "want a a 0 0 10 0 1;";
        LastBoat boat = Check.told(text, 4);
        long free = boat.means(0, 3, 0, 0);
        boat.rule(0, 1, 3);
        Check.isTrue("the RULE tells", boat.means(0, 3, 0, 0) != free);
        boat.list();
        Check.putRow(boat, 5);
        Check.due("begin", boat.begin(7), 0);
        boat.keep(0);
        boat.keep(2);
        Check.put(boat, text);
        Check.due("post() again", boat.post(), 4);
        Check.due("RULES are FREE", boat.means(0, 3, 0, 0), free);
        Check.due("no list", boat.listed(0), LastBoat.NONE);
        Check.due("no RUN", boat.go(0), LastBoat.STATE);
        Check.due("no SLOT 0", boat.take(0), LastBoat.STATE);
        Check.due("no SLOT 2", boat.take(2), LastBoat.STATE);
        Check.put(boat, "weeks 2;" + WINTER + THING);
        Check.due("post() without wants", boat.post(), 3);
        Check.due("none is wanted", boat.wants(0, 0, 0), 10);
        Check.due("none is needed", boat.wants(0, 0, 4), 0);
    }

    private static void wantsAndSigns() {
        LastBoat boat = Check.told("winter a 4 1 2 7;winter b 6 10 0 0;thing t 1 1 1 1 1 0;thing u 1 1 1 1 1 0;"
            + "want u b 1 2 3 4 3;", 5);
        int[] told = { 1, 2, 3, 4, 3 };
        int[] untold = { 10, 0, 0, 0, 0 };
        for (int n = 0; n < 5; n++) {
            Check.due("wants told", boat.wants(1, 1, n), told[n]);
            Check.due("wants untold", boat.wants(1, 0, n), untold[n]);
            Check.due("wants untold", boat.wants(0, 1, n), untold[n]);
        }
        for (int bad : new int[] { -1, 2, Integer.MAX_VALUE, Integer.MIN_VALUE }) {
            Check.due("wants: no such THING", boat.wants(bad, 0, 0), LastBoat.RANGE);
            Check.due("wants: no such WINTER", boat.wants(0, bad, 0), LastBoat.RANGE);
            Check.due("signs: no such WINTER", boat.signs(bad, 0), LastBoat.RANGE);
        }
        Check.due("wants(0, 0, 5)", boat.wants(0, 0, 5), LastBoat.RANGE);
        Check.due("wants(0, 0, -1)", boat.wants(0, 0, -1), LastBoat.RANGE);
        Check.due("signs(0, 0)", boat.signs(0, 0), 1);
        Check.due("signs(0, 1)", boat.signs(0, 1), 2);
        Check.due("signs(0, 2)", boat.signs(0, 2), 7);
        Check.due("signs(1, 0)", boat.signs(1, 0), 10);
        Check.due("signs(0, 3)", boat.signs(0, 3), LastBoat.RANGE);
        Check.due("signs(0, -1)", boat.signs(0, -1), LastBoat.RANGE);
    }

    private static void rules() {
        LastBoat boat = Check.told("weeks 1;" + WINTER + THING + "want a a 0 0 0 10 1;", 4);
        int[][] good = { { 0, 0 }, { 1, 0 }, { 1, 40 }, { 2, 0 }, { 2, 40 }, { 0, 40 } };
        for (int[] rule : good) {
            Check.due("rule", boat.rule(0, rule[0], rule[1]), 1);
        }
        int[][] bad = { { 0, 3, 0 }, { 0, -1, 0 }, { 0, 1, 41 }, { 0, 1, -1 }, { 0, 2, 41 }, { 1, 0, 0 }, { -1, 0, 0 } };
        boat.rule(0, 1, 2);
        for (int[] rule : bad) {
            Check.due("rule", boat.rule(rule[0], rule[1], rule[2]), LastBoat.RANGE);
        }
        Check.due("KEEP 2 stands", boat.means(0, 4, 0, 0), 20);
        boat.rule(0, 2, 4);
        Check.due("DEAR 4 at 4: one wish fewer", boat.means(0, 4, 0, 0), 20);
        Check.due("DEAR 4 at 4: none is MISSED", boat.means(0, 4, 0, 2), 0);
        Check.due("DEAR 4 at 5", boat.means(0, 5, 0, 0), 30);
        boat.rule(0, 0, 0);
        Check.due("FREE", boat.means(0, 4, 0, 0), 30);
    }

    /** Texts with a token changed, against a second reader. */
    private static void mutations() {
        Random random = new Random(5);
        String[] tokens = { "weeks", "cases", "winter", "thing", "want", "instead", "family", "a", "b", "wa", "wb",
            "0", "1", "2", "3", "5", "9", "10", "11", "99", "100", "101", "500", "501", "999", "1000", ";", ";", "#", "nosuchname" };
        for (int i = 0; i < 4000; i++) {
            StringBuilder text = new StringBuilder(Oracle.random(random, 5).text());
            if (random.nextBoolean()) {
                text.append("family a 3 4 5; family b 0 500 500;");
            }
            String[] parts = text.toString().split("(?=[ ;\n])");
            int changes = random.nextInt(3);
            for (int j = 0; j < changes; j++) {
                int at = random.nextInt(parts.length);
                String token = tokens[random.nextInt(tokens.length)];
                int way = random.nextInt(3);
                parts[at] = way == 0 ? " " + token : way == 1 ? "" : parts[at] + " " + token;
            }
            String changed = String.join("", parts);
            if (changed.length() <= 900) {
                compare(changed);
            }
        }
    }

    private static void compare(String text) {
        SecondReader due = new SecondReader(text);
        LastBoat boat = new LastBoat();
        Check.put(boat, text);
        Check.due("post() of " + text, boat.post(), due.kind == 0 ? due.clauses : LastBoat.NONE);
        Check.due("fault(0) of " + text, boat.fault(0), due.kind);
        Check.due("fault(1) of " + text, boat.fault(1), due.kind == 0 ? LastBoat.NONE : due.place);
    }
}
