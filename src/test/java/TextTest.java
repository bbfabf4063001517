/** Promises 1 to 5: a new object, feed, end, fault, room. */
public final class TextTest {
    private static final String WALL = "wall 100 200 200;";

    public static void main(String[] args) {
        newObject();
        feeding();
        ending();
        noFault();
        faultsOfTokens();
        faultsOfWalls();
        faultsOfOpenings();
        faultsOfLeansAndStands();
        shortLines();
        readAnew();
        tooMany();
        rooms();
        Check.finish();
    }

    private static void newObject() {
        HalfDrop x = new HalfDrop();
        Check.due("rooms of a new object", 0, x.count(0));
        Check.due("papers of a new object", 0, x.count(1));
        Check.due("of(0, 0) of a new object", -1, x.of(0, 0));
        Check.due("trim of a new object", 5, x.count(2));
        Check.due("batches of a new object", 0, x.count(3));
        Check.due("ends of a new object", 0, x.count(4));
        Check.due("bytes of a new object", 0, x.count(5));
        for (int k = 0; k < 3; k++) {
            Check.due("images of a new object", false, x.on(k));
        }
    }

    private static void feeding() {
        HalfDrop x = new HalfDrop();
        for (int n = 20; n <= 400; n += 20) {
            Check.due("feed up to " + n, n, x.feed(0, -1, Integer.MIN_VALUE, Integer.MAX_VALUE, 7));
        }
        Check.due("feed past 400", -1, x.feed(0, 0, 0, 0, 0));
        Check.due("bytes after a refused feed", 400, x.count(5));
        Check.due("end(381)", true, x.end(381));
        Check.due("feed that would make 401", -1, x.feed(0, 0, 0, 0, 0));
        Check.due("bytes stay 381", 381, x.count(5));
        Check.due("end(380)", true, x.end(380));
        Check.due("feed to 400 again", 400, x.feed(0, 0, 0, 0, 0));
        HalfDrop y = new HalfDrop();
        // "wall 100 200 300;   " with the highest byte of each number first
        Check.due("feed a wall", 20, y.feed(0x77616c6c, 0x20313030, 0x20323030, 0x20333030, 0x3b202020));
        Check.due("fault of it", -1, y.fault());
        y.room();
        Check.due("its height at 0", 200, y.height(0, 0));
        Check.due("its height at 50", 250, y.height(0, 50));
    }

    private static void ending() {
        HalfDrop x = new HalfDrop();
        Check.due("end(0) of no bytes", true, x.end(0));
        Check.due("end(1) of no bytes", false, x.end(1));
        Check.feed(x, WALL + "wall 9");
        Check.due("end(-1)", false, x.end(-1));
        Check.due("end(least)", false, x.end(Integer.MIN_VALUE));
        Check.due("end(24)", false, x.end(24));
        Check.due("bytes after refused ends", 23, x.count(5));
        Check.due("end(23)", true, x.end(23));
        Check.due("fault with the rest", 22, x.fault());
        Check.due("end(17)", true, x.end(17));
        Check.due("fault without the rest", -1, x.fault());
        Check.due("end(18)", false, x.end(18));
        Check.due("bytes", 17, x.count(5));
    }

    private static void fault(String text, int want) {
        Check.due("fault of \"" + text + "\"", want, Check.faultOf(text));
    }

    private static void noFault() {
        fault(WALL, -1);
        fault("wall 50 100 100;", -1);
        fault("wall 600 400 400;", -1);
        fault("wall100 200 200;", -1);
        fault("\n wall\n100 200\n\n200 ; \n", -1);
        fault("wall 0100 00200 0000000000200;", -1);
        fault(WALL + "door 0 0 100 50;", -1);
        fault(WALL + "door 0 99 100 199;", -1);
        fault("wall 100 200 150;door 0 0 1 149;", -1);
        fault(WALL + "window 0 0 100 1 2;", -1);
        fault(WALL + "window 0 0 100 198 199;", -1);
        fault("wall 100 400 400;window 0 0 100 300 399;", -1);
        fault(WALL + "lean 0 0;", -1);
        fault(WALL + "lean 0 50;", -1);
        fault(WALL + "lean 0 - 50;", -1);
        fault(WALL + "lean 0-0;", -1);
        fault(WALL + "stand 0 100 400;", -1);
        fault(WALL + "stand 0 0 0;", -1);
        fault(WALL + "lean 0 5;" + WALL + "lean 1 5;", -1);
        fault(WALL + WALL + "door 1 0 1 50;window 0 0 1 1 2;", -1);
    }

    private static void faultsOfTokens() {
        fault("", 0);
        fault("  \n ", 4);
        fault("w", 0);
        fault("wall", 4);
        fault("wall ", 5);
        fault("wall 100 200 200", 16);
        fault("wall 100 200 200 \n", 18);
        fault("Wall 100 200 200;", 0);
        fault("walls 100 200 200;", 0);
        fault("wal 100 200 200;", 0);
        fault("wall\t100 200 200;", 4);
        fault("wall 100 200 200;\r", 17);
        fault("wall 100 200 200;;", 17);
        fault("wall 100 200 200; ;", 18);
        fault("wall 100 200 200 200;", 17);
        fault("wall 100 200;", 12);
        fault("wall -100 200 200;", 5);
        fault("wall 100 wall 200;", 9);
        fault("wall 100 200 200;100", 17);
        fault("wall 100 200 200;-", 17);
        fault("wall 100 200 200;" + (char) 233, 17);
        fault((char) 128 + WALL, 0);
        fault((char) 0 + WALL, 0);
        fault("wall 100 ! 200;", 9);
        fault("wall 40 !", 5);
        fault("wall 100 200 20!", 13);
        fault("wall 100 200 200!", 16);
        fault("floor", 0);
        fault("ball 100 200 200;", 0);
        fault(WALL + "foor 0 0 1 50;", 17);
        fault(WALL + "bindow 0 0 1 1 2;", 17);
        fault(WALL + "mean 0 1;", 17);
        fault(WALL + "atand 0 0 0;", 17);
        fault(";".repeat(400), 0);
        fault(WALL + ";".repeat(383), 17);
        fault(" ".repeat(383) + WALL, -1);
        fault(";", 0);
        fault("7", 0);
    }

    private static void faultsOfWalls() {
        fault("wall 49 200 200;", 5);
        fault("wall 601 200 200;", 5);
        fault("wall 100200 200;", 5);
        fault("wall 99999999999999999999999 200 200;", 5);
        // 4294967396 is 100 more than 2 to the 32nd
        fault("wall 4294967396 200 200;", 5);
        fault("wall 100 99 200;", 9);
        fault("wall 100 401 200;", 9);
        fault("wall 100 200 99;", 13);
        fault("wall 100 200 401;", 13);
    }

    private static void faultsOfOpenings() {
        fault("door 0 0 1 50;", 5);
        fault("window 0 0 1 1 2;", 7);
        fault(WALL + "door 1 0 1 50;", 22);
        fault(WALL + "door 0 101 102 50;", 24);
        fault(WALL + "door 0 100 101 50;", 28);
        fault(WALL + "door 0 100 100 50;", 28);
        fault(WALL + "door 0 50 40 50;", 27);
        fault(WALL + "door 0 50 101 50;", 27);
        fault(WALL + "door 0 0 50 49;", 29);
        fault(WALL + "door 0 0 50 200;", 29);
        fault("wall 100 200 150;door 0 0 50 150;", 29);
        fault("wall 100 150 200;door 0 0 50 150;", 29);
        fault(WALL + "door 0 0 50;", 28);
        fault(WALL + "door 0 0 50 100 1;", 33);
        fault(WALL + "window 1 0 1 1 2;", 24);
        fault(WALL + "window 0 101 102 1 2;", 26);
        fault(WALL + "window 0 50 50 1 2;", 29);
        fault(WALL + "window 0 50 40 1 2;", 29);
        fault(WALL + "window 0 50 101 1 2;", 29);
        fault(WALL + "window 0 0 50 0 100;", 31);
        fault(WALL + "window 0 0 50 301 302;", 31);
        fault(WALL + "window 0 0 50 300 302;", 35);
        fault(WALL + "window 0 0 50 100 100;", 35);
        fault(WALL + "window 0 0 50 100 200;", 35);
        fault("wall 100 200 150;window 0 0 50 100 150;", 35);
        fault(WALL + "window 0 0 50 100;", 34);
    }

    private static void faultsOfLeansAndStands() {
        fault("lean 0 5;", 5);
        fault(WALL + "lean 1 5;", 22);
        fault(WALL + "lean 0 51;", 24);
        fault(WALL + "lean 0 - 51;", 26);
        fault(WALL + "lean 0 -;", 25);
        fault(WALL + "lean 0 - - 5;", 26);
        fault(WALL + "lean - 0 5;", 22);
        fault(WALL + "lean 0;", 23);
        fault(WALL + "lean 0 5;lean 0 5;", 31);
        fault(WALL + "lean 0 0;lean 0 0;", 31);
        fault("stand 0 0 0;", 6);
        fault(WALL + "stand 1 0 0;", 23);
        fault(WALL + "stand 0 101 0;", 25);
        fault(WALL + "stand 0 100 401;", 29);
        fault(WALL + "stand 0 - 1 0;", 25);
    }

    /** A line that is over, or followed by another one's word, before all its numbers came. */
    private static void shortLines() {
        String[] lines = {"wall 100 200 200", "door 0 0 50 100", "window 0 0 50 100 150", "lean 0 5", "lean 0 - 5", "stand 0 0 0"};
        for (String line : lines) {
            String told = line.startsWith("wall") ? "" : WALL;
            for (int to = line.indexOf(' '); to > 0; to = line.indexOf(' ', to + 1)) {
                String first = told + line.substring(0, to);
                fault(first + ";", first.length());
                fault(first + " wall 100 200 200;", first.length() + 1);
                fault(first + " stand 0 0 0;", first.length() + 1);
                fault(first, first.length());
            }
            fault(told + line + " wall 100 200 200;", (told + line).length() + 1);
        }
    }

    /** What was read once, and then cut off, is gone. */
    private static void readAnew() {
        HalfDrop x = new HalfDrop();
        Check.feed(x, "wall 100 200 2009");
        Check.due("fault of a number too great", 13, x.fault());
        x.end(16);
        Check.due("fault without its last digit", 16, x.fault());
        x.end(0);
        Check.feed(x, WALL + WALL + "lean 0 50;door 0 0 50 100;stand 0 0 0;" + WALL);
        Check.due("fault of the longer text", -1, x.fault());
        x.end(34);
        Check.due("room of the shorter one", 0, x.room());
        int[] due = {2, 0, 200, 0};
        for (int what = 0; what < 4; what++) {
            Check.due("of(0, " + what + ")", due[what], x.of(0, what));
        }
        Check.due("it doesn't lean", 0, x.run(0, 0, 1));
        x.paper(50, 60, 0, 1000, 1);
        x.done(0, 0, 0, 0);
        Check.due("it has no door", 200, x.piece(0, 0, 2));
        Check.due("it has no stand", 0, x.faults(0, 3));
        Check.feed(x, WALL + WALL + "lean 0 50;");
        Check.due("the next room", 1, x.room());
        Check.due("the first one doesn't lean", 0, x.run(0, 0, 1));
        Check.due("the next one does", 100, x.run(1, 0, 1));
    }

    private static void tooMany() {
        String walls = WALL.repeat(8);
        fault(walls, -1);
        fault(walls + "wall", 136);
        fault(walls + " \nwall 1", 138);
        String openings = WALL + "door 0 0 1 50;window 0 0 1 1 2;".repeat(4);
        fault(openings, -1);
        fault(openings + "door 0 0 1 50;", openings.length());
        fault(openings + "window 0 0 1 1 2;", openings.length());
        fault(openings + "stand 0 0 0;lean 0 1;" + WALL, -1);
        String stands = WALL + "stand 0 0 0;".repeat(4);
        fault(stands, -1);
        fault(stands + "stand 0 0 0;", stands.length());
    }

    private static void rooms() {
        HalfDrop x = new HalfDrop();
        Check.due("room of no text", -1, x.room());
        Check.feed(x, WALL + "wall 9");
        Check.due("room with a fault", -1, x.room());
        Check.due("the text stays", 23, x.count(5));
        Check.due("rooms", 0, x.count(0));
        x.end(17);
        for (int n = 0; n < 6; n++) {
            Check.due("room " + n, n, x.room());
            Check.due("text after room " + n, 0, x.count(5));
            Check.due("rooms", n + 1, x.count(0));
            Check.feed(x, "wall 10" + n + " 200 200;");
        }
        Check.due("a 7th room", -1, x.room());
        Check.due("the text stays", 17, x.count(5));
        Check.due("its fault", -1, x.fault());
        Check.due("round of room 0", 100, x.of(0, 2));
        for (int n = 1; n < 6; n++) {
            Check.due("round of room " + n, 99 + n, x.of(n, 2));
        }
    }
}
