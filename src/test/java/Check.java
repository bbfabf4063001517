/** Tells each answer that is not the one that is due, and ends with 1 if there was one. */
final class Check {
    private static int calls = 0;
    private static int wrong = 0;
    private static String words = "";

    private Check() {
    }

    /** The document's own words that the checks from here on are about; SentenceTest looks whether they stand in it. */
    static void sentence(String quoted) {
        words = quoted;
    }

    static void due(String call, long want, long got) {
        calls++;
        if (got != want) {
            wrong++;
            System.out.println(call + " answered " + got + ", due is " + want + (words.isEmpty() ? "" : ", by \"" + words + "\""));
        }
    }

    static void due(String call, boolean want, boolean got) {
        due(call, want ? 1 : 0, got ? 1 : 0);
    }

    static int wrongs() {
        return wrong;
    }

    static void finish() {
        System.out.println(calls + " answers looked at, " + wrong + " of them wrong");
        if (wrong != 0) {
            System.exit(1);
        }
    }

    /** Puts a text of at most 400 bytes behind what was fed, and cuts off the bytes that fill the last call. */
    static void feed(HalfDrop x, String text) {
        int before = x.count(5);
        for (int at = 0; at < text.length(); at += 20) {
            x.feed(four(text, at), four(text, at + 4), four(text, at + 8), four(text, at + 12), four(text, at + 16));
        }
        x.end(before + text.length());
    }

    private static int four(String text, int at) {
        int number = 0;
        for (int i = at; i < at + 4; i++) {
            number = number << 8 | (i < text.length() ? text.charAt(i) & 255 : ' ');
        }
        return number;
    }

    /** The FAULT of a text on a new object. */
    static int faultOf(String text) {
        HalfDrop x = new HalfDrop();
        feed(x, text);
        return x.fault();
    }

    /** A new object with one ROOM. */
    static HalfDrop withRoom(String text) {
        HalfDrop x = new HalfDrop();
        addRoom(x, text);
        return x;
    }

    static int addRoom(HalfDrop x, String text) {
        feed(x, text);
        int room = x.room();
        if (room == HalfDrop.NONE) {
            throw new IllegalStateException("the test's own room has a fault at " + x.fault() + ": " + text);
        }
        return room;
    }
}
