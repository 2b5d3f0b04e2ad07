import java.nio.charset.StandardCharsets;

/** What all tests use: answers that are due, and texts put on the tape. */
final class Check {
    static final long FAR = -9000000000000000000L;
    static final int FAR_NONE = -1000000;
    private static int wrong = 0;
    private static int asked = 0;
    private static String test = "";
    private static boolean isSentenceSaid = false;

    private Check() {
    }

    static void due(String what, long got, long want) {
        asked++;
        if (got != want) {
            wrong++;
            if (wrong <= 40) {
                System.out.println(test + what + " answered " + got + ", due is " + want);
            }
        }
    }

    static void isTrue(String what, boolean holds) {
        due(what, holds ? 1 : 0, 1);
    }

    /** A test of one sentence begins: what is wrong from here on is told with its name. */
    static void begin(String name) {
        test = name.isEmpty() ? "" : name + ": ";
        isSentenceSaid = false;
    }

    static void sentence(String words) {
        isSentenceSaid = true;
        isTrue("the document says: " + words, Sentences.isInDocument(words));
    }

    static boolean isSentenceSaid() {
        return isSentenceSaid;
    }

    static void put(LastBoat boat, String text) {
        put(boat, text.getBytes(StandardCharsets.ISO_8859_1));
    }

    static void put(LastBoat boat, byte[] bytes) {
        boat.end(0);
        feed(boat, bytes);
    }

    /** Bytes behind those that the tape has; blanks fill the last twenty and are cut off again. */
    static void feed(LastBoat boat, byte[] bytes) {
        int before = boat.count(1);
        int[] five = new int[5];
        int padded = (bytes.length + 19) / 20 * 20;
        for (int i = 0; i < padded; i++) {
            int sign = i < bytes.length ? bytes[i] & 255 : 32;
            five[i % 20 / 4] = five[i % 20 / 4] << 8 | sign;
            if (i % 20 == 19) {
                boat.feed(five[0], five[1], five[2], five[3], five[4]);
            }
        }
        due("end(" + (before + bytes.length) + ")", boat.end(before + bytes.length), before + bytes.length);
    }

    /** A row of numbers as the tape has it: 48 and the number, a byte each. */
    static void putRow(LastBoat boat, int... row) {
        byte[] bytes = new byte[row.length];
        for (int i = 0; i < row.length; i++) {
            bytes[i] = (byte) (48 + row[i]);
        }
        put(boat, bytes);
    }

    static LastBoat told(String text, int clauses) {
        LastBoat boat = new LastBoat();
        put(boat, text);
        due("post() of " + text, boat.post(), clauses);
        return boat;
    }

    static void finish(String name) {
        System.out.println(name + ": " + asked + " asked, " + wrong + " wrong");
        if (wrong != 0) {
            System.exit(1);
        }
    }
}
