/** Promises 10 to 12 at their bounds, sentence by sentence: DONE, STRIPS, TALL, PIECES, LONG, PHASE. */
public final class EdgeStripTest {
    private static final int LEAST = Integer.MIN_VALUE;
    private static final int MOST = Integer.MAX_VALUE;
    private static final String ROOM = "wall 200 200 200;";

    public static void main(String[] args) {
        startsAndBases();
        roomsAndPapers();
        howManyStrips();
        lastStrips();
        rounds();
        offsets();
        tallAtSides();
        tallBetweenSides();
        withinOpenings();
        doorPieces();
        windowPieces();
        firstSuch();
        openingsAtCorners();
        fullAndEmptyOpenings();
        pieceNumbers();
        longAndPhase();
        otherStrips();
        otherPieces();
        Check.finish();
    }

    private static HalfDrop done(String room, int width, int start) {
        HalfDrop x = Check.withRoom(room);
        x.paper(width, 60, 0, 1000, 1);
        x.done(0, 0, start, 0);
        return x;
    }

    private static void startsAndBases() {
        Check.sentence("A ROOM is DONE with a PAPER, a START (a place) and a BASE (0 .. REPEAT - 1);");
        int[][] due = {
            {0, 0, 4}, {199, 0, 4}, {200, 0, -1}, {-1, 0, -1}, {LEAST, 0, -1}, {MOST, 0, -1},
            {0, 59, 4}, {0, 60, -1}, {0, -1, -1}, {0, LEAST, -1}, {0, MOST, -1}, {199, 59, 4}};
        for (int drop = 0; drop < 3; drop++) {
            for (int[] row : due) {
                HalfDrop x = Check.withRoom(ROOM);
                x.paper(50, 60, drop, 1000, 1);
                Check.due("done(0, 0, " + row[0] + ", " + row[1] + ")", row[2], x.done(0, 0, row[0], row[1]));
                Check.due("start then", row[2] == -1 ? -1 : row[0], x.of(0, 5));
                Check.due("base then", row[2] == -1 ? -1 : row[1], x.of(0, 6));
            }
        }
        HalfDrop y = Check.withRoom(ROOM);
        y.paper(50, 10, 0, 1000, 1);
        y.paper(50, 120, 0, 1000, 1);
        Check.due("base 9 of 10", 4, y.done(0, 0, 0, 9));
        Check.due("base 10 of 10", -1, y.done(0, 0, 0, 10));
        Check.due("base 119 of 120", 4, y.done(0, 1, 0, 119));
        Check.due("base 120 of 120", -1, y.done(0, 1, 0, 120));
    }

    private static void roomsAndPapers() {
        Check.sentence("A ROOM is DONE: how many STRIPS; NONE if there are none such, or they can't be.");
        HalfDrop x = Check.withRoom(ROOM);
        Check.due("no paper at all", -1, x.done(0, 0, 0, 0));
        x.paper(50, 60, 0, 1000, 1);
        int[] wrong = {-1, 1, 6, LEAST, MOST};
        for (int number : wrong) {
            Check.due("room " + number, -1, x.done(number, 0, 0, 0));
            Check.due("paper " + number, -1, x.done(0, number, 0, 0));
        }
        Check.due("it isn't done by them", -1, x.of(0, 4));
        Check.due("the last room and paper", 4, x.done(0, 0, 0, 0));
        for (int number : wrong) {
            Check.due("room " + number, -1, x.done(number, 0, 0, 0));
            Check.due("paper " + number, -1, x.done(0, number, 0, 0));
        }
        Check.due("it stays done", 0, x.of(0, 4));
    }

    private static void howManyStrips() {
        Check.sentence("STRIPS 0, 1, ..: each WIDTH wide from where the one ahead ends, the first from START, round, the last as wide as is left.");
        int[][] due = {{119, 20, 6}, {120, 20, 6}, {121, 20, 7}, {139, 20, 7}, {140, 20, 7}, {141, 20, 8}, {50, 120, 1}, {119, 120, 1},
            {120, 120, 1}, {121, 120, 2}, {50, 50, 1}, {51, 50, 2}, {50, 49, 2}};
        for (int[] row : due) {
            HalfDrop x = Check.withRoom("wall " + row[0] + " 200 200;");
            x.paper(row[1], 60, 0, 1000, 1);
            Check.due("strips of " + row[0] + " by " + row[1], row[2], x.done(0, 0, 0, 0));
            Check.due("the same by of", row[2], x.of(0, 7));
            Check.due("from the last place on", row[2], x.done(0, 0, row[0] - 1, 0));
        }
        Check.due("the most", 240, done("wall 600 100 100;".repeat(8), 20, 0).of(0, 7));
    }

    private static void lastStrips() {
        Check.sentence("the last as wide as is left.");
        int[][] due = {{119, 20, 5, 19}, {120, 20, 5, 20}, {121, 20, 6, 1}, {50, 120, 0, 50}, {120, 120, 0, 120}, {121, 120, 1, 1}};
        for (int[] row : due) {
            for (int start = 0; start < row[0]; start += 7) {
                HalfDrop x = done("wall " + row[0] + " 200 200;", row[1], start);
                Check.due("width of the last", row[3], x.strip(0, row[2], 1));
                Check.due("none behind it", -1, x.strip(0, row[2] + 1, 1));
                Check.due("width of the first", row[2] == 0 ? row[3] : row[1], x.strip(0, 0, 1));
            }
        }
    }

    private static void rounds() {
        Check.sentence("each WIDTH wide from where the one ahead ends, the first from START, round");
        int[][] due = {{0, 0, 50, 100, 150}, {149, 149, 199, 49, 99}, {150, 150, 0, 50, 100}, {151, 151, 1, 51, 101}, {199, 199, 49, 99, 149}};
        for (int[] row : due) {
            HalfDrop x = done(ROOM, 50, row[0]);
            for (int strip = 0; strip < 4; strip++) {
                Check.due("strip " + strip + " from " + row[0], row[strip + 1], x.strip(0, strip, 0));
            }
        }
    }

    private static void offsets() {
        Check.sentence("OFFSET of a STRIP: BASE, for half REPEAT by 2 (cut) more with odd numbers, rest by REPEAT: what is at the top of it.");
        // repeat, base, then the offset in an odd strip of a half paper
        int[][] due = {{10, 0, 5}, {10, 4, 9}, {10, 5, 0}, {10, 9, 4}, {11, 0, 5}, {11, 5, 10}, {11, 6, 0}, {11, 10, 4}, {120, 59, 119}, {120, 60, 0},
            {120, 119, 59}, {119, 59, 118}, {119, 60, 0}};
        for (int[] row : due) {
            for (int drop = 0; drop < 3; drop++) {
                HalfDrop x = Check.withRoom(ROOM);
                x.paper(50, row[0], drop, 1000, 1);
                x.done(0, 0, 0, row[1]);
                for (int strip = 0; strip < 4; strip++) {
                    boolean dropped = drop == 1 && strip % 2 == 1;
                    Check.due("offset of strip " + strip + ", drop " + drop, dropped ? row[2] : row[1], x.strip(0, strip, 3));
                }
            }
        }
    }

    private static void tall(String room, int width, int start, int... due) {
        HalfDrop x = done(room, width, start);
        for (int strip = 0; strip < due.length; strip++) {
            Check.due("tall of strip " + strip + " from " + start, due[strip], x.strip(0, strip, 2));
        }
        Check.due("strips", due.length, x.of(0, 7));
    }

    private static void tallAtSides() {
        Check.sentence("(a side at an end of WALLS counts on that WALL alone on which the STRIP lies there)");
        // High at the right wall's beginning alone
        String right = "wall 100 100 100;wall 100 300 100;";
        tall(right, 100, 0, 100, 300);
        tall(right, 100, 100, 300, 100);
        tall(right, 20, 80, 100, 300, 260, 220, 180, 140, 100, 100, 100, 100);
        // High at the left wall's end alone
        String left = "wall 100 100 300;wall 100 100 100;";
        tall(left, 100, 0, 300, 100);
        tall(left, 20, 80, 300, 100, 100, 100, 100, 100, 140, 180, 220, 260);
        // At the last corner, where the round begins anew
        String last = "wall 100 250 100;wall 100 100 180;";
        tall(last, 100, 0, 250, 180);
        tall(last, 100, 100, 180, 250);
        tall("wall 60 100 300;", 60, 0, 300);
        tall("wall 60 300 100;", 60, 0, 300);
    }

    private static void tallBetweenSides() {
        Check.sentence("TALL is a STRIP as the greatest HEIGHT at its sides and at all ends of WALLS between them");
        String right = "wall 100 100 100;wall 100 300 100;";
        // One place over the corner is enough.
        tall(right, 20, 81, 300, 298, 258, 218, 178, 138, 100, 100, 100, 100);
        tall(right, 20, 99, 300, 262, 222, 182, 142, 102, 100, 100, 100, 100);
        String left = "wall 100 100 300;wall 100 100 100;";
        tall(left, 20, 99, 300, 100, 100, 100, 100, 138, 178, 218, 258, 298);
        // Two corners in one strip: from 90 on over 100 and 150, and over the last corner
        String three = "wall 100 150 150;wall 50 200 310;wall 50 120 120;";
        tall(three, 100, 90, 310, 150);
        // Up to 149, one ahead of the second corner
        tall(three, 100, 49, 307, 310);
        tall("wall 50 100 100;wall 50 100 100;wall 50 100 390;", 120, 149, 390, 100 + 290 * 49 / 50);
        // One strip all round has all ends between its sides, unless they are at one.
        tall("wall 60 100 300;", 120, 0, 300);
        tall("wall 60 100 300;", 120, 1, 300);
        tall("wall 50 100 100;wall 50 300 100;", 120, 0, 300);
        tall("wall 50 100 100;wall 50 300 100;", 120, 50, 300);
        tall("wall 50 100 300;wall 50 100 100;", 120, 50, 300);
        // Sides count: higher than the ends between them
        tall("wall 100 400 100;wall 100 100 400;", 100, 50, 250, 400);
        Check.sentence("The top is level all round: DEPTH is from the top down.");
        HalfDrop x = done("wall 100 400 100;wall 100 100 400;", 100, 50);
        Check.due("from the top", 0, x.piece(0, 0, 1));
        Check.due("down to its tall", 250, x.piece(0, 0, 2));
    }

    private static void bottoms(HalfDrop x, int... due) {
        Check.due("pieces", due.length, x.of(0, 8));
        for (int piece = 0; piece < due.length; piece++) {
            Check.due("to of piece " + piece, due[piece], x.piece(0, piece, 2));
        }
    }

    private static void withinOpenings() {
        Check.sentence("Its PIECES: if both its sides lie within one OPENING (or at its ends, on that WALL; the first such):");
        String door = ROOM + "door 0 20 60 150;";
        // 20 wide: which of the strips from 0 on lie within 20 .. 60
        bottoms(done(door, 20, 0), 200, 50, 50, 200, 200, 200, 200, 200, 200, 200);
        bottoms(done(door, 20, 19), 200, 50, 200, 200, 200, 200, 200, 200, 200, 200);
        bottoms(done(door, 20, 20), 50, 50, 200, 200, 200, 200, 200, 200, 200, 200);
        bottoms(done(door, 20, 21), 50, 200, 200, 200, 200, 200, 200, 200, 200, 200);
        bottoms(done(door, 20, 39), 50, 200, 200, 200, 200, 200, 200, 200, 200, 200);
        bottoms(done(door, 20, 40), 50, 200, 200, 200, 200, 200, 200, 200, 200, 50);
        bottoms(done(door, 20, 41), 200, 200, 200, 200, 200, 200, 200, 200, 200, 50);
        // As wide as the opening, and wider by one
        bottoms(done(door, 40, 19), 200, 200, 200, 200, 200);
        bottoms(done(door, 40, 20), 50, 200, 200, 200, 200);
        bottoms(done(door, 40, 21), 200, 200, 200, 200, 200);
        bottoms(done(door, 41, 20), 200, 200, 200, 200, 200);
        bottoms(done(door, 41, 19), 200, 200, 200, 200, 200);
        // The last strip, 1 wide, fits an opening 1 wide.
        bottoms(done("wall 121 200 200;door 0 120 121 150;", 20, 0), 200, 200, 200, 200, 200, 200, 50);
        bottoms(done("wall 121 200 200;door 0 119 120 150;", 20, 0), 200, 200, 200, 200, 200, 200, 200);
        // Of another wall at the same places
        bottoms(done("wall 100 200 200;wall 100 200 200;door 1 0 50 150;", 50, 0), 200, 200, 50, 200);
    }

    private static void doorPieces() {
        Check.sentence("of a door one from DEPTH 0 to TALL less H;");
        HalfDrop x = done("wall 50 100 100;door 0 0 50 99;", 50, 0);
        bottoms(x, 1);
        Check.due("from", 0, x.piece(0, 0, 1));
        Check.due("pieces of it", 1, x.strip(0, 0, 4));
        bottoms(done("wall 50 400 400;door 0 0 50 50;", 50, 0), 350);
        // The lesser height is 100; by its tall, 400, there's more.
        bottoms(done("wall 50 100 400;door 0 0 50 99;", 50, 0), 301);
        bottoms(done("wall 100 100 200;door 0 0 50 99;", 50, 0), 51, 200);
    }

    private static void windowPieces() {
        Check.sentence("of a window one from 0 to TALL less D, and one from TALL less C to TALL; else one from 0 to TALL.");
        HalfDrop x = done("wall 50 100 100;window 0 0 50 1 99;", 50, 0);
        bottoms(x, 1, 100);
        Check.due("from of the upper", 0, x.piece(0, 0, 1));
        Check.due("from of the lower", 99, x.piece(0, 1, 1));
        Check.due("pieces of it", 2, x.strip(0, 0, 4));
        HalfDrop y = done("wall 50 400 400;window 0 0 50 300 301;", 50, 0);
        bottoms(y, 99, 400);
        Check.due("from of the lower", 100, y.piece(0, 1, 1));
        HalfDrop z = done("wall 50 100 400;window 0 0 50 98 99;", 50, 0);
        bottoms(z, 301, 400);
        Check.due("from of the lower", 302, z.piece(0, 1, 1));
        HalfDrop w = done("wall 50 100 400;", 50, 0);
        bottoms(w, 400);
        Check.due("from", 0, w.piece(0, 0, 1));
    }

    private static void firstSuch() {
        Check.sentence("(or at its ends, on that WALL; the first such)");
        bottoms(done("wall 50 200 200;door 0 0 50 60;door 0 0 50 70;", 50, 0), 140);
        bottoms(done("wall 50 200 200;door 0 0 50 70;door 0 0 50 60;", 50, 0), 130);
        bottoms(done("wall 50 200 200;door 0 0 49 60;door 0 0 50 70;", 50, 0), 130);
        bottoms(done("wall 50 200 200;door 0 1 50 60;door 0 0 50 70;", 50, 0), 130);
        bottoms(done("wall 50 200 200;window 0 0 50 10 20;door 0 0 50 70;", 50, 0), 180, 200);
        bottoms(done("wall 50 200 200;door 0 0 50 70;window 0 0 50 10 20;", 50, 0), 130);
        // One side within the one, the other within the other: in none
        bottoms(done("wall 50 200 200;door 0 0 25 70;door 0 25 50 70;", 50, 0), 200);
        bottoms(done("wall 50 200 200;door 0 0 40 70;door 0 10 50 70;", 50, 0), 200);
    }

    private static void openingsAtCorners() {
        Check.sentence("if both its sides lie within one OPENING (or at its ends, on that WALL;");
        String ends = "wall 100 200 200;wall 100 200 200;door 0 80 100 60;";
        bottoms(done(ends, 20, 80), 140, 200, 200, 200, 200, 200, 200, 200, 200, 200);
        bottoms(done(ends, 20, 81), 200, 200, 200, 200, 200, 200, 200, 200, 200, 200);
        bottoms(done(ends, 20, 100), 200, 200, 200, 200, 200, 200, 200, 200, 200, 140);
        String begins = "wall 100 200 200;wall 100 200 200;door 1 0 20 60;";
        bottoms(done(begins, 20, 80), 200, 140, 200, 200, 200, 200, 200, 200, 200, 200);
        bottoms(done(begins, 20, 99), 200, 200, 200, 200, 200, 200, 200, 200, 200, 200);
        String lastEnd = "wall 100 200 200;wall 100 200 200;door 1 80 100 60;";
        bottoms(done(lastEnd, 20, 180), 140, 200, 200, 200, 200, 200, 200, 200, 200, 200);
        bottoms(done(lastEnd, 20, 0), 200, 200, 200, 200, 200, 200, 200, 200, 200, 140);
        bottoms(done(lastEnd, 20, 1), 200, 200, 200, 200, 200, 200, 200, 200, 200, 200);
        String firstBegin = "wall 100 200 200;wall 100 200 200;door 0 0 20 60;";
        bottoms(done(firstBegin, 20, 180), 200, 140, 200, 200, 200, 200, 200, 200, 200, 200);
        // Doors on both sides of a corner are two.
        bottoms(done("wall 100 200 200;wall 100 200 200;door 0 50 100 60;door 1 0 50 60;", 20, 90), 200, 140, 140, 200, 200, 200, 200, 200, 140, 140);
        // A wall that is all opening
        bottoms(done("wall 50 200 200;wall 50 200 200;door 0 0 50 60;", 50, 0), 140, 200);
        bottoms(done("wall 50 200 200;wall 50 200 200;door 0 0 50 60;", 50, 50), 200, 140);
    }

    /** As many openings as there can be, and none but those of its own text. */
    private static void fullAndEmptyOpenings() {
        Check.sentence("Its PIECES: if both its sides lie within one OPENING (or at its ends, on that WALL; the first such):");
        String seven = "wall 200 200 200;" + "door 0 1 2 50;".repeat(7);
        bottoms(done(seven + "door 0 1 2 50;", 50, 0), 200, 200, 200, 200);
        bottoms(done(seven + "door 0 150 200 60;", 50, 0), 200, 200, 200, 140);
        bottoms(done(seven + "window 0 150 200 60 70;", 50, 0), 200, 200, 200, 130, 200);
        // A door that was read and then cut off is none of the room's.
        HalfDrop x = new HalfDrop();
        Check.feed(x, "wall 50 200 200;door 0 0 50 60;");
        Check.due("fault with the door", -1, x.fault());
        x.end(16);
        x.room();
        x.paper(50, 60, 0, 1000, 1);
        x.done(0, 0, 0, 0);
        bottoms(x, 200);
        // Nor is one of another room.
        Check.addRoom(x, "wall 50 200 200;door 0 0 50 60;");
        x.done(1, 0, 0, 0);
        Check.due("to in the other room", 140, x.piece(1, 0, 2));
        bottoms(x, 200);
    }

    private static void pieceNumbers() {
        Check.sentence("PIECES of a ROOM are numbered by STRIPS, the upper first.");
        HalfDrop x = done("wall 200 200 200;window 0 50 150 50 100;", 50, 0);
        int[][] due = {{0, 0, 200}, {1, 0, 100}, {1, 150, 200}, {2, 0, 100}, {2, 150, 200}, {3, 0, 200}};
        for (int piece = 0; piece < due.length; piece++) {
            for (int what = 0; what < 3; what++) {
                Check.due("piece(0, " + piece + ", " + what + ")", due[piece][what], x.piece(0, piece, what));
            }
        }
        StringBuilder most = new StringBuilder("wall 600 400 400;".repeat(8));
        for (int wall = 0; wall < 8; wall++) {
            most.append("window ").append(wall).append(" 0 600 9 99;");
        }
        HalfDrop y = done(most.toString(), 20, 0);
        Check.due("the most", 480, y.of(0, 8));
        Check.due("the last one's strip", 239, y.piece(0, 479, 0));
        Check.due("the last one from", 391, y.piece(0, 479, 1));
        Check.due("one behind it", -1, y.piece(0, 480, 0));
        Check.sentence("4 how many PIECES, 5 the number of its first PIECE (as if it had one).");
        int[][] strips = {{1, 0}, {2, 1}, {2, 3}, {1, 5}};
        for (int strip = 0; strip < strips.length; strip++) {
            Check.due("pieces of " + strip, strips[strip][0], x.strip(0, strip, 4));
            Check.due("first of " + strip, strips[strip][1], x.strip(0, strip, 5));
        }
    }

    private static void longAndPhase() {
        Check.sentence("A PIECE from DEPTH a to b is cut TRIM longer at both ends: LONG is b - a and twice TRIM, its PHASE OFFSET and a less TRIM, rest by REPEAT (0 if free).");
        // repeat, trim, base, phase of a piece from 0 on
        int[][] due = {{60, 0, 0, 0}, {60, 0, 59, 59}, {60, 5, 4, 59}, {60, 5, 5, 0}, {60, 5, 0, 55}, {60, 20, 19, 59}, {60, 20, 20, 0},
            {10, 20, 0, 0}, {10, 20, 9, 9}, {10, 11, 0, 9}, {10, 10, 0, 0}, {120, 1, 0, 119}};
        for (int[] row : due) {
            HalfDrop x = Check.withRoom("wall 50 100 100;window 0 0 50 30 70;");
            x.paper(50, row[0], 0, 1000, 1);
            x.paper(50, row[0], 2, 1000, 1);
            x.trim(row[1]);
            x.done(0, 0, 0, row[2]);
            Check.due("long of the upper", 30 + 2 * row[1], x.piece(0, 0, 3));
            Check.due("long of the lower", 30 + 2 * row[1], x.piece(0, 1, 3));
            Check.due("phase of the upper", row[3], x.piece(0, 0, 4));
            Check.due("phase of the lower, 70 deeper", (row[3] + 70) % row[0], x.piece(0, 1, 4));
            x.done(0, 1, 0, row[2]);
            Check.due("phase, if free", 0, x.piece(0, 0, 4));
            Check.due("phase of the lower, if free", 0, x.piece(0, 1, 4));
        }
        HalfDrop y = Check.withRoom("wall 50 100 100;door 0 0 50 99;");
        y.paper(50, 60, 0, 300, 1);
        y.done(0, 0, 0, 0);
        y.trim(0);
        Check.due("the shortest", 1, y.piece(0, 0, 3));
        HalfDrop z = Check.withRoom("wall 50 400 400;");
        z.paper(50, 60, 0, 300, 1);
        z.done(0, 0, 0, 0);
        z.trim(20);
        Check.due("the longest", 440, z.piece(0, 0, 3));
    }

    private static void otherStrips() {
        Check.sentence("Of a STRIP: 0 where it begins, 1 how wide, 2 TALL, 3 OFFSET,");
        HalfDrop x = Check.withRoom(ROOM);
        x.paper(60, 60, 1, 1000, 1);
        for (int what = 0; what < 6; what++) {
            Check.due("not done", -1, x.strip(0, 0, what));
        }
        x.done(0, 0, 190, 40);
        int[][] due = {{190, 60, 200, 40, 1, 0}, {50, 60, 200, 10, 1, 1}, {110, 60, 200, 40, 1, 2}, {170, 20, 200, 10, 1, 3}};
        for (int strip = 0; strip < 4; strip++) {
            for (int what = 0; what < 6; what++) {
                Check.due("strip(0, " + strip + ", " + what + ")", due[strip][what], x.strip(0, strip, what));
            }
        }
        Check.sentence("NONE for others, or if there is none such.");
        int[][] wrong = {{-1, 0, 0}, {1, 0, 0}, {6, 0, 0}, {LEAST, 0, 0}, {MOST, 0, 0}, {0, -1, 0}, {0, 4, 0}, {0, LEAST, 0}, {0, MOST, 0},
            {0, 0, -1}, {0, 0, 6}, {0, 0, LEAST}, {0, 0, MOST}};
        for (int[] w : wrong) {
            Check.due("strip(" + w[0] + ", " + w[1] + ", " + w[2] + ")", -1, x.strip(w[0], w[1], w[2]));
        }
    }

    private static void otherPieces() {
        Check.sentence("Of a PIECE: 0 its STRIP, 1 DEPTH from, 2 to, 3 LONG, 4 PHASE; by FIRST FIT 5 its roll, 6 where in it.");
        HalfDrop x = Check.withRoom(ROOM);
        x.paper(100, 60, 0, 1000, 1);
        for (int what = 0; what < 7; what++) {
            Check.due("not done", -1, x.piece(0, 0, what));
        }
        x.done(0, 0, 0, 0);
        int[][] due = {{0, 0, 200, 210, 55, 0, 55}, {1, 0, 200, 210, 55, 0, 295}};
        for (int piece = 0; piece < 2; piece++) {
            for (int what = 0; what < 7; what++) {
                Check.due("piece(0, " + piece + ", " + what + ")", due[piece][what], x.piece(0, piece, what));
            }
        }
        Check.sentence("NONE for others, if there is none such, or (5, 6) there is none.");
        int[][] wrong = {{-1, 0, 0}, {1, 0, 0}, {6, 0, 0}, {LEAST, 0, 0}, {MOST, 0, 0}, {0, -1, 0}, {0, 2, 0}, {0, LEAST, 0}, {0, MOST, 0},
            {0, 0, -1}, {0, 0, 7}, {0, 0, LEAST}, {0, 0, MOST}, {0, 2, 5}, {0, -1, 6}};
        for (int[] w : wrong) {
            Check.due("piece(" + w[0] + ", " + w[1] + ", " + w[2] + ")", -1, x.piece(w[0], w[1], w[2]));
        }
        HalfDrop y = Check.withRoom("wall 50 250 250;");
        y.paper(50, 60, 0, 300, 1);
        y.done(0, 0, 0, 45);
        Check.due("roll, ending at 300", 0, y.piece(0, 0, 5));
        Check.due("place, ending at 300", 40, y.piece(0, 0, 6));
        y.done(0, 0, 0, 46);
        Check.due("roll, too long by 1", -1, y.piece(0, 0, 5));
        Check.due("place, too long by 1", -1, y.piece(0, 0, 6));
        Check.due("phase all the same", 41, y.piece(0, 0, 4));
    }
}
