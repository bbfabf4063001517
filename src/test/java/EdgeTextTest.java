/** Promises 1 to 5 at their bounds, sentence by sentence. */
public final class EdgeTextTest {
    private static final String WALL = "wall 100 200 200;";
    private static final int ALL_BYTES = 256;

    public static void main(String[] args) {
        newObject();
        feeding();
        byteOrder();
        ending();
        tokens();
        tokensAsLongAsCanBe();
        words();
        blanksBetween();
        lines();
        walls();
        doors();
        windows();
        openings();
        leans();
        stands();
        faultAsTheTextIs();
        firstTokenThatCantStand();
        bytesThatBeginNoToken();
        endsTooEarly();
        rooms();
        roomTexts();
        Check.finish();
    }

    private static void fault(String text, int want) {
        Check.due("fault of \"" + text + "\"", want, Check.faultOf(text));
    }

    private static void newObject() {
        Check.sentence("No ROOMS, PAPERS.");
        HalfDrop x = new HalfDrop();
        Check.due("rooms", 0, x.count(0));
        Check.due("papers", 0, x.count(1));
        Check.due("of the first room", -1, x.of(0, 0));
        Check.due("a batch of the first paper", -1, x.batch(0, 1));
        Check.due("an end of the first paper", -1, x.keep(0, 1, 0));
        Check.due("the first paper", 0, x.paper(20, 10, 0, 300, 1));
        Check.due("the first room", 0, Check.addRoom(x, WALL));
        Check.sentence("An object is used for at most 512 calls after it has been made; what later calls answer is free.");
        HalfDrop y = new HalfDrop();
        for (int call = 1; call < 512; call++) {
            y.trim(call % 21);
        }
        Check.due("the 512th call", 511 % 21, y.count(2));
    }

    private static void feeding() {
        Check.sentence("NONE if there would be more than 400.");
        HalfDrop x = new HalfDrop();
        for (int bytes = 20; bytes <= 400; bytes += 20) {
            Check.due("feed up to " + bytes, bytes, x.feed(0, 0, 0, 0, 0));
        }
        Check.due("feed up to 420", -1, x.feed(0, 0, 0, 0, 0));
        Check.due("bytes then", 400, x.count(5));
        int[][] due = {{399, -1}, {381, -1}, {380, 400}, {379, 399}};
        for (int[] row : due) {
            HalfDrop y = new HalfDrop();
            Check.feed(y, " ".repeat(row[0]));
            Check.due("feed behind " + row[0], row[1], y.feed(0x20202020, 0x20202020, 0x20202020, 0x20202020, 0x20202020));
            Check.due("bytes then", row[1] == -1 ? row[0] : row[1], y.count(5));
            Check.due("its fault", row[1] == -1 ? row[0] : row[1], y.fault());
        }
    }

    private static void byteOrder() {
        Check.sentence("Bytes come behind those of the text, of each number the highest first (20 of them): how many there are;");
        int blanks = 0x20202020;
        for (int place = 0; place < 20; place++) {
            int[] numbers = {blanks, blanks, blanks, blanks, blanks};
            numbers[place / 4] ^= (' ' ^ '!') << 24 - 8 * (place % 4);
            HalfDrop x = new HalfDrop();
            Check.due("feed", 20, x.feed(numbers[0], numbers[1], numbers[2], numbers[3], numbers[4]));
            Check.due("a sign at " + place, place, x.fault());
            HalfDrop y = new HalfDrop();
            y.feed(blanks, blanks, blanks, blanks, blanks);
            y.end(7);
            Check.due("feed behind 7", 27, y.feed(numbers[0], numbers[1], numbers[2], numbers[3], numbers[4]));
            Check.due("a sign at 7 and " + place, 7 + place, y.fault());
        }
        HalfDrop z = new HalfDrop();
        z.feed(blanks, blanks, blanks, blanks, 0x202020ff);
        Check.due("the greatest byte", 19, z.fault());
        HalfDrop w = new HalfDrop();
        w.feed(blanks, blanks, blanks, 0x80202020, blanks);
        Check.due("a number below 0", 12, w.fault());
    }

    private static void ending() {
        Check.sentence("The text has its first n bytes alone: true; false if it has not so many, or n is below 0.");
        HalfDrop x = new HalfDrop();
        Check.due("end(1) of none", false, x.end(1));
        Check.due("end(-1) of none", false, x.end(-1));
        Check.due("end(0) of none", true, x.end(0));
        Check.feed(x, WALL + "!");
        Check.due("end(19) of 18", false, x.end(19));
        Check.due("end(-1) of 18", false, x.end(-1));
        Check.due("end(least) of 18", false, x.end(Integer.MIN_VALUE));
        Check.due("end(most) of 18", false, x.end(Integer.MAX_VALUE));
        Check.due("the text is as it was", 17, x.fault());
        Check.due("end(18) of 18", true, x.end(18));
        Check.due("all bytes are there", 17, x.fault());
        Check.due("end(17) of 18", true, x.end(17));
        Check.due("the last byte is gone", -1, x.fault());
        Check.due("end(18) of 17", false, x.end(18));
        Check.due("end(1)", true, x.end(1));
        Check.due("one byte", 1, x.count(5));
        Check.due("end(0)", true, x.end(0));
        Check.due("no bytes", 0, x.count(5));
        Check.due("end(1) of none", false, x.end(1));
    }

    private static boolean isSmallLetter(int sign) {
        return sign >= 97 && sign <= 122;
    }

    private static boolean isDigit(int sign) {
        return sign >= 48 && sign <= 57;
    }

    private static boolean isBetween(int sign) {
        return sign == 32 || sign == 10;
    }

    /** Each byte that there is, where it would tell itself as a letter, a digit, or a sign. */
    private static void tokens() {
        for (int sign = 0; sign < ALL_BYTES; sign++) {
            char c = (char) sign;
            Check.sentence("TOKENS: words of small letters");
            Check.due("a letter, byte " + sign, isSmallLetter(sign) ? 0 : isBetween(sign) ? 5 : 4, Check.faultOf("wall" + c));
            Check.sentence("numbers of digits");
            Check.due("a digit, byte " + sign, isDigit(sign) ? -1 : 5, Check.faultOf("wall 10" + c + " 200 200;"));
            Check.sentence("and - ; with any blanks (32) and line ends (10) between");
            int unlessSemicolon = isDigit(sign) ? 13 : isBetween(sign) ? 17 : 16;
            Check.due("a semicolon, byte " + sign, c == ';' ? -1 : unlessSemicolon, Check.faultOf("wall 100 200 200" + c));
            boolean fine = c == '-' || isBetween(sign) || c >= '0' && c <= '4';
            Check.due("a minus, byte " + sign, fine ? -1 : 24, Check.faultOf(WALL + "lean 0 " + c + "5;"));
            Check.due("a blank, byte " + sign, isBetween(sign) ? -1 : 17, Check.faultOf(WALL + c));
        }
    }

    private static void tokensAsLongAsCanBe() {
        Check.sentence("numbers of digits, as long as can be");
        fault("wall100 200 200;", -1);
        fault("wallwall 100 200 200;", 0);
        fault("wall 100200 200;", 5);
        fault("wall 10 0 200 200;", 5);
        fault("wa ll 100 200 200;", 0);
        fault("wall 100 200 200;wall100 200 200;lean1-5;lean0 5;", -1);
        fault("wall 000000000000000000000000000100 200 200;", -1);
        fault("wall " + "9".repeat(380) + " 200 200;", 5);
        // 2 to the 32nd and to the 64th more than 100
        fault("wall 4294967396 200 200;", 5);
        fault("wall 18446744073709551716 200 200;", 5);
        fault(WALL + "lean 0 4294967296;", 24);
        fault(WALL + "door 4294967296 0 1 50;", 22);
    }

    /** Each word with each of its letters changed, left out, or said twice. */
    private static void words() {
        Check.sentence("TOKENS: words of small letters");
        String[] lines = {"wall 100 200 200;", "door 0 0 50 100;", "window 0 0 50 100 150;", "lean 0 5;", "stand 0 0 0;"};
        for (String line : lines) {
            int letters = line.indexOf(' ');
            fault(WALL + line, -1);
            for (int at = 0; at < letters; at++) {
                fault(WALL + line.substring(0, at) + "x" + line.substring(at + 1), 17);
                fault(WALL + line.substring(0, at) + line.substring(at + 1), 17);
                fault(WALL + line.substring(0, at + 1) + line.substring(at), 17);
            }
        }
        // As many tokens as there are bytes
        fault(";".repeat(400), 0);
        fault(WALL + "-;".repeat(191) + "-", 17);
        fault(WALL + "a1".repeat(191) + "a", 17);
    }

    private static void blanksBetween() {
        Check.sentence("with any blanks (32) and line ends (10) between.");
        fault("wall 100 200 200 ; ", -1);
        fault("\n\n \nwall\n100\n\n200   200\n;\n", -1);
        fault(" ".repeat(383) + WALL, -1);
        fault(WALL + "\n".repeat(383), -1);
        fault(WALL + "lean 0 -5;", -1);
        fault(WALL + "lean 0-5;", -1);
        fault(WALL + "lean 0- 5 ;", -1);
        fault(WALL + "lean 0\n-\n5;", -1);
    }

    private static void lines() {
        Check.sentence("LINES, one or more:");
        fault("", 0);
        fault(WALL, -1);
        fault(WALL + WALL, -1);
        Check.sentence("or has no WALL; NONE without.");
        fault(" ", 1);
        fault("\n", 1);
        fault(" \n".repeat(200), 400);
        fault(WALL, -1);
    }

    private static void walls() {
        Check.sentence("L 50 .. 600 long, H high at its left end and K at its right one, 100 .. 400)");
        fault("wall 49 100 100;", 5);
        fault("wall 50 100 100;", -1);
        fault("wall 600 400 400;", -1);
        fault("wall 601 400 400;", 5);
        fault("wall 50 99 100;", 8);
        fault("wall 50 100 99;", 12);
        fault("wall 50 400 100;", -1);
        fault("wall 50 100 400;", -1);
        fault("wall 50 401 100;", 8);
        fault("wall 50 100 401;", 12);
        fault("wall 0 100 100;", 5);
        fault("wall - 50 100 100;", 5);
        Check.sentence("wall L H K ; (at most 8 WALLS, numbers as they come, one right of the other, the first right of the last");
        fault(WALL.repeat(8), -1);
        fault(WALL.repeat(8) + " wall", 137);
        fault(WALL.repeat(9), 136);
        fault(WALL.repeat(8) + "door 7 0 1 50;", -1);
        fault(WALL.repeat(8) + "door 8 0 1 50;", 141);
        Check.due("8 walls", 8, Check.withRoom(WALL.repeat(8)).of(0, 0));
    }

    private static void doors() {
        Check.sentence("door W A B H ; (a WALL told ahead, from A to B, 0 .. L, B greater; H high, 50 .. the lesser height less 1)");
        String two = WALL + "wall 200 150 300;";
        fault("door 0 0 1 50;" + WALL, 5);
        fault(WALL + "door 1 0 1 50;" + WALL, 22);
        fault(two + "door 0 0 1 50;", -1);
        fault(two + "door 1 0 1 50;", -1);
        fault(two + "door 2 0 1 50;", 39);
        fault(two + "door - 1 0 1 50;", 39);
        // Of the first one L is 100, of the second 200.
        fault(two + "door 0 99 100 50;", -1);
        fault(two + "door 0 99 101 50;", 44);
        fault(two + "door 0 101 102 50;", 41);
        fault(two + "door 1 199 200 50;", -1);
        fault(two + "door 1 199 201 50;", 45);
        fault(two + "door 1 201 202 50;", 41);
        fault(two + "door 1 200 200 50;", 45);
        fault(two + "door 1 0 0 50;", 43);
        fault(two + "door 1 0 1 50;", -1);
        fault(two + "door 1 - 1 1 50;", 41);
        fault(two + "door 1 70 69 50;", 44);
        fault(two + "door 1 70 70 50;", 44);
        fault(two + "door 1 70 71 50;", -1);
        fault(two + "door 1 0 200 50;", -1);
        fault(two + "door 0 0 9 49;", 45);
        fault(two + "door 0 0 9 199;", -1);
        fault(two + "door 0 0 9 200;", 45);
        fault(two + "door 1 0 9 149;", -1);
        fault(two + "door 1 0 9 150;", 45);
        fault("wall 100 300 150;door 0 0 9 149;", -1);
        fault("wall 100 300 150;door 0 0 9 150;", 28);
        fault("wall 100 100 100;door 0 0 9 99;", -1);
        fault("wall 100 100 100;door 0 0 9 100;", 28);
        fault("wall 100 400 400;door 0 0 9 399;", -1);
        fault("wall 100 400 400;door 0 0 9 400;", 28);
    }

    private static void windows() {
        Check.sentence("window W A B C D ; (from C to D above the floor, C 1 .. 300, D greater, below the lesser height;");
        String two = "wall 100 400 400;wall 200 150 300;";
        fault("window 0 0 1 1 2;" + WALL, 7);
        fault(two + "window 1 0 1 1 2;", -1);
        fault(two + "window 2 0 1 1 2;", 41);
        fault(two + "window 0 101 102 1 2;", 43);
        fault(two + "window 0 100 101 1 2;", 47);
        fault(two + "window 0 100 100 1 2;", 47);
        fault(two + "window 0 99 100 1 2;", -1);
        fault(two + "window 1 200 201 1 2;", 47);
        fault(two + "window 1 199 200 1 2;", -1);
        fault(two + "window 1 0 0 1 2;", 45);
        fault(two + "window 0 0 9 0 2;", 47);
        fault(two + "window 0 0 9 1 2;", -1);
        fault(two + "window 0 0 9 300 301;", -1);
        fault(two + "window 0 0 9 300 399;", -1);
        fault(two + "window 0 0 9 300 400;", 51);
        fault(two + "window 0 0 9 301 302;", 47);
        fault(two + "window 0 0 9 1 1;", 49);
        fault(two + "window 0 0 9 2 1;", 49);
        fault(two + "window 0 0 9 300 300;", 51);
        fault(two + "window 1 0 9 1 149;", -1);
        fault(two + "window 1 0 9 1 150;", 49);
        fault(two + "window 1 0 9 148 149;", -1);
        fault(two + "window 1 0 9 149 150;", 51);
        fault("wall 100 300 150;window 0 0 9 1 149;", -1);
        fault("wall 100 300 150;window 0 0 9 1 150;", 32);
    }

    private static void openings() {
        Check.sentence("OPENINGS of both kinds at most 8, numbers as they come)");
        String door = "door 0 0 1 50;";
        String window = "window 0 0 1 1 2;";
        for (int doors = 0; doors <= 8; doors++) {
            String eight = WALL + door.repeat(doors) + window.repeat(8 - doors);
            fault(eight, -1);
            fault(eight + " " + door, eight.length() + 1);
            fault(eight + "\n" + window, eight.length() + 1);
            fault(eight + "door", eight.length());
            Check.due("8 openings", 8, Check.withRoom(eight).of(0, 1));
        }
        Check.due("no opening", 0, Check.withRoom(WALL).of(0, 1));
    }

    private static void leans() {
        Check.sentence("lean W M ; or lean W - M ; (the corner right of a WALL told ahead, each once: M 0 .. 50, below 0 with -)");
        fault("lean 0 5;" + WALL, 5);
        fault(WALL + "lean 0 5;", -1);
        fault(WALL + "lean 1 5;" + WALL, 22);
        fault(WALL + WALL + "lean 1 5;", -1);
        fault(WALL + WALL + "lean 2 5;", 39);
        fault(WALL + "lean 0 0;", -1);
        fault(WALL + "lean 0 50;", -1);
        fault(WALL + "lean 0 51;", 24);
        fault(WALL + "lean 0 - 0;", -1);
        fault(WALL + "lean 0 - 50;", -1);
        fault(WALL + "lean 0 - 51;", 26);
        fault(WALL + "lean 0 - - 5;", 26);
        fault(WALL + "lean 0 -;", 25);
        Check.sentence("a WALL whose corner leans already, at its number)");
        fault(WALL + WALL + "lean 0 5;lean 1 5;", -1);
        fault(WALL + WALL + "lean 0 5;lean 0 5;", 48);
        fault(WALL + WALL + "lean 0 5;lean 0 - 5;", 48);
        fault(WALL + WALL + "lean 1 - 5;lean 1", 50);
        fault(WALL + "lean 0 0;" + WALL + "lean 0 0;", 48);
        String all = WALL.repeat(8);
        for (int wall = 0; wall < 8; wall++) {
            all += "lean " + wall + " 50;";
        }
        fault(all, -1);
        fault(all + "lean 7 50;", all.length() + 5);
        fault(all + "lean 8 50;", all.length() + 5);
    }

    private static void stands() {
        Check.sentence("stand W X Y ; (a WALL told ahead, X 0 .. L, Y 0 .. 400 above the floor; at most 4, numbers as they come)");
        fault("stand 0 0 0;" + WALL, 6);
        fault(WALL + "stand 0 0 0;", -1);
        fault(WALL + "stand 1 0 0;", 23);
        fault(WALL + WALL + "stand 1 0 0;", -1);
        fault(WALL + "stand 0 100 0;", -1);
        fault(WALL + "stand 0 101 0;", 25);
        fault(WALL + "stand 0 - 1 0;", 25);
        fault(WALL + "stand 0 0 400;", -1);
        fault(WALL + "stand 0 0 401;", 27);
        fault(WALL + "stand 0 0 - 1;", 27);
        String four = WALL + "stand 0 0 0;".repeat(4);
        fault(four, -1);
        fault(four + "stand", four.length());
        fault(four + " \nstand 0 0 0;", four.length() + 2);
        fault(four + "door 0 0 1 50;lean 0 0;", -1);
        Check.due("4 stands", 4, Check.withRoom(four).of(0, 3));
        Check.due("no stand", 0, Check.withRoom(WALL).of(0, 3));
    }

    private static void faultAsTheTextIs() {
        Check.sentence("The FAULT.");
        HalfDrop x = new HalfDrop();
        Check.due("of no bytes", 0, x.fault());
        Check.feed(x, WALL);
        Check.due("of a wall", -1, x.fault());
        Check.due("of it again", -1, x.fault());
        Check.feed(x, "wall");
        Check.due("of a word more", 21, x.fault());
        x.end(17);
        Check.due("without it", -1, x.fault());
        x.end(16);
        Check.due("without the last sign too", 16, x.fault());
        Check.feed(x, ";");
        Check.due("with it again", -1, x.fault());
        // What was read ahead of it, and cut off, is gone.
        x.end(0);
        Check.feed(x, "wall 600 300 300;wall 600 300 300;lean 0 50;door 0 0 50 99;stand 0 9 9;");
        Check.due("of a longer text", -1, x.fault());
        x.end(0);
        Check.feed(x, WALL + WALL);
        Check.due("of the shorter one", -1, x.fault());
        x.room();
        int[] due = {2, 0, 200, 0};
        for (int what = 0; what < due.length; what++) {
            Check.due("of(0, " + what + ") of the shorter one", due[what], x.of(0, what));
        }
        Check.due("its corner", 0, x.run(0, 0, 1));
        Check.due("behind a room", 0, x.fault());
    }

    private static void firstTokenThatCantStand() {
        Check.sentence("The FAULT is the place (from 0 on) of the first byte of the first TOKEN that can't stand there");
        fault("x", 0);
        fault("  49", 2);
        fault("-", 0);
        fault("wall 49 99 99 99", 5);
        fault("wall 50 99 99 99", 8);
        fault("wall 50 100 99 99", 12);
        fault("wall 50 100 100 99", 16);
        fault(WALL + "99", 17);
        fault(WALL + ";", 17);
        fault(WALL + "roof", 17);
        Check.sentence("(also: a number that can't be; a 9th wall or OPENING, 5th stand at their words;");
        fault("wall   49 100 100;", 7);
        fault(WALL.repeat(8) + "wall 50 100 100;", 136);
        String openings = WALL + "door 0 0 1 50;".repeat(8);
        fault(openings + "window 0 0 1 1 2;", openings.length());
        fault(openings + "door 0 0 1 50;", openings.length());
        fault(WALL + "stand 0 0 0;".repeat(5), 17 + 48);
    }

    private static void bytesThatBeginNoToken() {
        Check.sentence("or of a byte that begins no TOKEN, if that is ahead;");
        fault("!", 0);
        fault("!wall 49", 0);
        fault("wall !49 100 100;", 5);
        fault("wall 49! 100 100;", 5);
        fault("wall 50!100 100;", 7);
        fault("wall 50 100 100 !;", 16);
        fault("wall 50 100 100;!", 16);
        fault("wall 50 100 100 100 !", 16);
        fault(WALL + "!".repeat(383), 17);
        fault("Wall 100 200 200;", 0);
        fault("wALL 100 200 200;", 0);
        fault("waLl 100 200 200;", 0);
        // The word is wrong already ahead of the sign behind it.
        fault("wal! 100 200 200;", 0);
        fault("wall! 100 200 200;", 4);
    }

    private static void endsTooEarly() {
        Check.sentence("the length, if it ends too early");
        String[] lines = {"wall 100 200 200", "door 0 0 50 100", "window 0 0 50 100 150", "lean 0 5", "lean 0 - 5", "stand 0 0 0"};
        for (String line : lines) {
            String first = line.startsWith("wall") ? "" : WALL;
            String[] tokens = line.split(" ");
            StringBuilder text = new StringBuilder(first);
            for (String token : tokens) {
                text.append(token);
                fault(text.toString(), text.length());
                text.append(" ");
                fault(text.toString(), text.length());
                fault(text + "\n\n", text.length() + 2);
            }
            fault(text + ";", -1);
        }
    }

    private static void rooms() {
        Check.sentence("A ROOM comes of the text, which is empty then: its number; NONE with a FAULT (it stays), or if 6 came.");
        HalfDrop x = new HalfDrop();
        Check.due("of the empty text", -1, x.room());
        Check.feed(x, WALL + "wall");
        Check.due("with a fault", -1, x.room());
        Check.due("it stays", 21, x.count(5));
        Check.due("its fault stays", 21, x.fault());
        Check.due("no room came", 0, x.count(0));
        x.end(17);
        for (int room = 0; room < 6; room++) {
            Check.due("room " + room, room, x.room());
            Check.due("the text is empty", 0, x.count(5));
            Check.due("so it has a fault", 0, x.fault());
            Check.due("and is no room", -1, x.room());
            Check.feed(x, WALL);
        }
        Check.due("a 7th room", -1, x.room());
        Check.due("its text stays", 17, x.count(5));
        Check.due("without a fault", -1, x.fault());
        Check.sentence("A ROOM (at most 6, numbers as they come) comes of a text of at most 400 bytes.");
        Check.due("rooms", 6, x.count(0));
        Check.due("the 6th", 100, x.of(5, 2));
        Check.due("a 7th", -1, x.of(6, 2));
    }

    private static void roomTexts() {
        Check.sentence("comes of a text of at most 400 bytes.");
        HalfDrop x = new HalfDrop();
        Check.feed(x, " ".repeat(383) + WALL);
        Check.due("400 bytes", 400, x.count(5));
        Check.due("a room of 400 bytes", 0, x.room());
        Check.feed(x, " ".repeat(384) + WALL.substring(0, 16));
        Check.due("400 bytes of 401", 400, x.count(5));
        Check.due("that end too early", 400, x.fault());
        Check.due("no room of them", -1, x.room());
        Check.sentence("NONE with a FAULT (it stays), or if 6 came.");
        Check.due("end(0)", true, x.end(0));
        Check.feed(x, "wall 50 100 100;");
        Check.due("the next room", 1, x.room());
        Check.due("its round", 50, x.of(1, 2));
    }
}
