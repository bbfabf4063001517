/** Promises 12 (5 and 6), 13, 14 and 23 at their bounds, sentence by sentence: FIRST FIT, the FEWEST, ALL ROOMS. */
public final class EdgeRollTest {
    private static final int LEAST = Integer.MIN_VALUE;
    private static final int MOST = Integer.MAX_VALUE;

    public static void main(String[] args) {
        rollsBeginAtNought();
        leastPlaces();
        freePlaces();
        firstRolls();
        justFits();
        fewest();
        atMostTwelve();
        allLongByRoll();
        tooLong();
        tooLongAmongOthers();
        otherRolls();
        leftOfRolls();
        allRooms();
        Check.finish();
    }

    /** Walls 50 wide of these heights, a strip each, without TRIM. */
    private static HalfDrop heights(int repeat, int drop, int roll, int base, int... heights) {
        StringBuilder room = new StringBuilder();
        for (int height : heights) {
            room.append("wall 50 ").append(height).append(" ").append(height).append(";");
        }
        HalfDrop x = Check.withRoom(room.toString());
        x.trim(0);
        x.paper(50, repeat, drop, roll, 1);
        x.done(0, 0, 0, base);
        return x;
    }

    private static void places(HalfDrop x, int[]... due) {
        for (int piece = 0; piece < due.length; piece++) {
            Check.due("roll of " + piece, due[piece][0], x.piece(0, piece, 5));
            Check.due("place of " + piece, due[piece][1], x.piece(0, piece, 6));
        }
    }

    private static int[] at(int roll, int place) {
        return new int[] {roll, place};
    }

    private static void rollsBeginAtNought() {
        Check.sentence("All rolls begin at 0 of the REPEAT.");
        for (int base = 0; base < 60; base++) {
            HalfDrop x = heights(60, 0, 300, base, 200, 200);
            places(x, at(0, base), at(1, base));
        }
        places(heights(60, 1, 300, 40, 200, 200), at(0, 40), at(1, 10));
    }

    private static void leastPlaces() {
        Check.sentence("from the least place there, no less than what is cut, that has its PHASE as rest by REPEAT (free: just behind).");
        // Just behind, if it has its phase there; one later, nearly a whole repeat later
        places(heights(20, 0, 400, 0, 100, 100, 100), at(0, 0), at(0, 100), at(0, 200));
        places(heights(20, 0, 400, 0, 101, 101, 101), at(0, 0), at(0, 120), at(0, 240));
        places(heights(20, 0, 400, 0, 119, 119, 119), at(0, 0), at(0, 120), at(0, 240));
        places(heights(20, 0, 400, 7, 100, 101, 100), at(0, 7), at(0, 107), at(0, 227));
        places(heights(20, 1, 400, 0, 110, 110, 110), at(0, 0), at(0, 110), at(0, 220));
        places(heights(20, 1, 400, 0, 111, 109, 110), at(0, 0), at(0, 130), at(0, 240));
        places(heights(20, 1, 400, 15, 100, 100, 100), at(0, 15), at(0, 125), at(0, 235));
        places(heights(120, 0, 2000, 119, 121, 119, 120), at(0, 119), at(0, 359), at(0, 479));
    }

    private static void freePlaces() {
        Check.sentence("that has its PHASE as rest by REPEAT (free: just behind).");
        places(heights(20, 2, 400, 0, 101, 119, 100, 101), at(0, 0), at(0, 101), at(0, 220), at(1, 0));
        places(heights(20, 2, 400, 19, 100, 100, 100, 100), at(0, 0), at(0, 100), at(0, 200), at(0, 300));
    }

    private static void firstRolls() {
        Check.sentence("FIRST FIT: PIECES, by their numbers, each from the first roll in which it fits behind what is cut from it:");
        places(heights(20, 2, 300, 0, 200, 200, 100, 100, 100), at(0, 0), at(1, 0), at(0, 200), at(1, 200), at(2, 0));
        places(heights(20, 2, 300, 0, 199, 200, 101, 100, 100), at(0, 0), at(1, 0), at(0, 199), at(1, 200), at(2, 0));
        places(heights(20, 2, 300, 0, 200, 199, 101, 100), at(0, 0), at(1, 0), at(1, 199), at(0, 200));
        places(heights(20, 2, 300, 0, 200, 200, 200, 101, 100), at(0, 0), at(1, 0), at(2, 0), at(3, 0), at(0, 200));
        // By their numbers, though another order would be better
        places(heights(20, 2, 300, 0, 140, 100, 160, 200), at(0, 0), at(0, 140), at(1, 0), at(2, 0));
        // Nothing goes ahead of what is cut: the first piece leaves 0 .. 100 free.
        places(heights(120, 1, 320, 110, 200, 100), at(0, 110), at(1, 50));
    }

    private static void justFits() {
        Check.sentence("each from the first roll in which it fits behind what is cut from it:");
        places(heights(20, 2, 300, 0, 200, 100), at(0, 0), at(0, 200));
        places(heights(20, 2, 300, 0, 200, 101), at(0, 0), at(1, 0));
        places(heights(20, 2, 301, 0, 200, 101), at(0, 0), at(0, 200));
        // Phase 10: from 210 on up to 310
        places(heights(20, 0, 310, 10, 190, 100), at(0, 10), at(0, 210));
        places(heights(20, 0, 309, 10, 190, 100), at(0, 10), at(1, 10));
        places(heights(20, 0, 310, 10, 190, 101), at(0, 10), at(1, 10));
        places(heights(20, 0, 310, 10, 201, 100), at(0, 10), at(1, 10));
        places(heights(20, 0, 310, 10, 200, 100), at(0, 10), at(0, 210));
    }

    private static void rolls(HalfDrop x, int fewest, int byLength, int firstFit) {
        Check.due("the fewest", fewest, x.rolls(0, 0));
        Check.due("all long by roll", byLength, x.rolls(0, 1));
        Check.due("first fit", firstFit, x.rolls(0, 2));
    }

    private static void fewest() {
        Check.sentence("The FEWEST rolls are by any order and any rolls;");
        rolls(heights(20, 2, 300, 0, 140, 100, 160, 200), 2, 2, 3);
        rolls(heights(20, 2, 300, 0, 140, 100, 161, 200), 3, 3, 3);
        rolls(heights(20, 2, 300, 0, 300), 1, 1, 1);
        // Phases 50 and 0 of 100: 50 .. 160, then 200 .. 320, doesn't fit; 0 .. 120, then 150 .. 260, does.
        rolls(heights(100, 1, 300, 50, 110, 120), 1, 1, 2);
        rolls(heights(100, 1, 319, 50, 110, 120), 1, 1, 2);
        rolls(heights(100, 1, 320, 50, 110, 120), 1, 1, 1);
        // 0 .. 150, then 150 .. 300; with one more, 151, it would begin at 250.
        rolls(heights(100, 1, 300, 50, 150, 150), 1, 1, 2);
        rolls(heights(100, 1, 300, 50, 150, 151), 2, 2, 2);
        // By length two would do, by the pattern not: phases 99 alone fit one a roll.
        rolls(heights(100, 0, 300, 99, 110, 110, 110), 3, 2, 3);
        // 390 and 200, 300 and three of 100; first fit puts the 200 with the three.
        rolls(heights(20, 2, 600, 0, 200, 100, 100, 100, 300, 390), 2, 2, 3);
    }

    private static void atMostTwelve() {
        Check.sentence("if there are at most 12 PIECES they are told, else bounds alone: all LONG by ROLL, cut up, and FIRST FIT.");
        HalfDrop x = Check.withRoom("wall 600 100 100;");
        Check.addRoom(x, "wall 600 100 100;wall 50 100 100;");
        Check.addRoom(x, "wall 600 100 100;window 0 0 50 20 30;");
        Check.addRoom(x, "wall 550 100 100;window 0 0 50 20 30;");
        x.trim(0);
        x.paper(50, 20, 0, 300, 1);
        for (int room = 0; room < 4; room++) {
            x.done(room, 0, 0, 0);
        }
        int[][] due = {{12, 4, 4, 4}, {13, -1, 5, 5}, {13, -1, 4, 4}, {12, 4, 4, 4}};
        for (int room = 0; room < 4; room++) {
            Check.due("pieces", due[room][0], x.of(room, 8));
            for (int what = 0; what < 3; what++) {
                Check.due("rolls(" + room + ", " + what + ")", due[room][what + 1], x.rolls(room, what));
            }
        }
        Check.sentence("Rolls: 0 the FEWEST (NONE with more than 12 PIECES), 1 all LONG by ROLL, 2 FIRST FIT.");
        rolls(heights(20, 2, 300, 0, 100), 1, 1, 1);
        x.paper(49, 20, 0, 300, 1);
        x.done(0, 1, 0, 0);
        Check.due("13 strips", 13, x.of(0, 7));
        Check.due("the fewest of 13", -1, x.rolls(0, 0));
        Check.due("all long of 13", 5, x.rolls(0, 1));
        Check.due("first fit of 13", 5, x.rolls(0, 2));
    }

    private static void allLongByRoll() {
        Check.sentence("all LONG by ROLL, cut up, and FIRST FIT.");
        int[][] due = {{100, 200, 300, 1}, {100, 201, 300, 2}, {100, 199, 300, 1}, {300, 300, 300, 2}, {400, 200, 599, 2}, {400, 200, 600, 1}, {100, 100, 2000, 1}};
        for (int[] row : due) {
            Check.due("all long of " + row[0] + " and " + row[1] + " by " + row[2],
                row[3], heights(20, 2, Math.max(row[2], 300), 0, row[0], row[1]).rolls(0, 1));
        }
        // Trims count: 100 and 190, each 5 longer at both ends
        HalfDrop x = heights(20, 2, 310, 0, 100, 190);
        x.trim(5);
        Check.due("with trims", 1, x.rolls(0, 1));
        x.trim(6);
        Check.due("with trims of 6", 2, x.rolls(0, 1));
    }

    private static void tooLong() {
        Check.sentence("None, if a PIECE is too LONG for each roll (its PHASE first).");
        for (int[] row : new int[][] {{241, 59, 1}, {242, 59, -1}, {241, 58, 1}, {242, 58, 1}, {243, 58, -1}, {300, 0, 1}, {301, 0, -1}, {299, 1, 1}, {300, 1, -1}}) {
            HalfDrop x = heights(60, 0, 300, row[1], row[0]);
            rolls(x, row[2], row[2], row[2]);
            Check.due("roll", row[2] == 1 ? 0 : -1, x.piece(0, 0, 5));
            Check.due("place", row[2] == 1 ? row[1] : -1, x.piece(0, 0, 6));
            Check.due("left", row[2] == 1 ? 300 - row[0] - row[1] : -1, x.left(0, 0, 0));
        }
        // Free: the base takes no place.
        rolls(heights(60, 2, 300, 59, 300), 1, 1, 1);
        rolls(heights(60, 2, 300, 59, 301), -1, -1, -1);
        rolls(heights(60, 2, 399, 0, 400), -1, -1, -1);
        rolls(heights(60, 2, 400, 0, 400), 1, 1, 1);
        // The trims make it so.
        HalfDrop x = heights(60, 2, 440, 0, 400);
        x.trim(20);
        rolls(x, 1, 1, 1);
        HalfDrop y = heights(60, 2, 439, 0, 400);
        y.trim(20);
        rolls(y, -1, -1, -1);
        y.trim(19);
        rolls(y, 1, 1, 1);
    }

    private static void tooLongAmongOthers() {
        Check.sentence("None, if a PIECE is too LONG for each roll (its PHASE first).");
        int[][] orders = {{301, 100, 100}, {100, 301, 100}, {100, 100, 301}};
        for (int[] heights : orders) {
            HalfDrop x = heights(60, 2, 300, 0, heights);
            rolls(x, -1, -1, -1);
            Check.due("left", -1, x.left(0, 0, 0));
            for (int piece = 0; piece < 3; piece++) {
                Check.due("roll of " + piece, -1, x.piece(0, piece, 5));
                Check.due("place of " + piece, -1, x.piece(0, piece, 6));
                Check.due("long of " + piece, heights[piece], x.piece(0, piece, 3));
            }
        }
        // In an odd strip of a half paper, whose phase is 30, and in an even one
        rolls(heights(60, 1, 300, 0, 270, 270), 2, 2, 2);
        rolls(heights(60, 1, 300, 0, 271, 270), 2, 2, 2);
        rolls(heights(60, 1, 300, 0, 270, 271), -1, -1, -1);
    }

    private static void otherRolls() {
        Check.sentence("NONE for others, if it isn't DONE, or there is none.");
        HalfDrop x = Check.withRoom("wall 50 100 100;");
        x.paper(50, 60, 0, 300, 1);
        for (int what = -1; what < 4; what++) {
            Check.due("not done, " + what, -1, x.rolls(0, what));
        }
        x.done(0, 0, 0, 0);
        int[] others = {-1, 3, LEAST, MOST};
        for (int what : others) {
            Check.due("rolls(0, " + what + ")", -1, x.rolls(0, what));
        }
        int[] rooms = {-1, 1, 6, LEAST, MOST};
        for (int room : rooms) {
            for (int what = 0; what < 3; what++) {
                Check.due("rolls(" + room + ", " + what + ")", -1, x.rolls(room, what));
            }
        }
    }

    private static void leftOfRolls() {
        Check.sentence("What is left of a roll by FIRST FIT (what 0), its PHASE (1; 0 if free); NONE likewise, or if there is no such roll.");
        HalfDrop x = heights(20, 0, 400, 0, 101, 101, 101, 400, 140);
        // 0 .. 101, 120 .. 221, 240 .. 341 | 0 .. 400 | 0 .. 140
        int[][] due = {{59, 1}, {0, 0}, {260, 0}};
        for (int roll = 0; roll < 3; roll++) {
            for (int what = 0; what < 2; what++) {
                Check.due("left(0, " + roll + ", " + what + ")", due[roll][what], x.left(0, roll, what));
            }
        }
        HalfDrop free = heights(20, 2, 403, 5, 101, 101, 101, 100, 101);
        int[][] dueOfFree = {{0, 0}, {302, 0}};
        for (int roll = 0; roll < 2; roll++) {
            for (int what = 0; what < 2; what++) {
                Check.due("free: left(0, " + roll + ", " + what + ")", dueOfFree[roll][what], free.left(0, roll, what));
            }
        }
        HalfDrop phases = heights(20, 0, 399, 19, 380);
        Check.due("nothing left", 0, phases.left(0, 0, 0));
        Check.due("its phase", 19, phases.left(0, 0, 1));
        int[][] wrong = {{0, -1, 0}, {0, 3, 0}, {0, 3, 1}, {0, LEAST, 0}, {0, MOST, 0}, {0, 0, -1}, {0, 0, 2}, {0, 0, LEAST}, {0, 0, MOST},
            {-1, 0, 0}, {1, 0, 0}, {6, 0, 0}, {MOST, 0, 0}};
        for (int[] w : wrong) {
            Check.due("left(" + w[0] + ", " + w[1] + ", " + w[2] + ")", -1, x.left(w[0], w[1], w[2]));
        }
        Check.addRoom(x, "wall 50 100 100;");
        Check.due("of a room that isn't done", -1, x.left(1, 0, 0));
    }

    private static void allRooms() {
        Check.sentence("ALL ROOMS: FIRST FIT of all PIECES of DONE ROOMS with a PAPER, by ROOMS.");
        HalfDrop x = new HalfDrop();
        x.trim(0);
        x.paper(50, 20, 2, 300, 1);
        x.paper(50, 20, 2, 300, 1);
        int[] heights = {140, 100, 160, 200, 301, 100};
        for (int height : heights) {
            Check.addRoom(x, "wall 50 " + height + " " + height + ";");
        }
        Check.due("no room is done", 0, x.all(0));
        x.done(3, 0, 0, 0);
        Check.due("one is", 1, x.all(0));
        x.done(0, 0, 0, 0);
        Check.due("140 and 200", 2, x.all(0));
        x.done(2, 0, 0, 0);
        Check.due("140 and 160, 200", 2, x.all(0));
        x.done(1, 0, 0, 0);
        Check.due("140 and 100, 160, 200, though the last ones would fit otherwise", 3, x.all(0));
        x.done(5, 0, 0, 0);
        Check.due("the sixth room fits behind the third", 3, x.all(0));
        x.done(0, 1, 0, 0);
        Check.due("100 and 160, 200 and 100", 2, x.all(0));
        Check.due("the other paper", 1, x.all(1));
        Check.sentence("ALL ROOMS: rolls of a PAPER; NONE if there is no such PAPER, or none.");
        x.done(4, 0, 0, 0);
        Check.due("one is too long", -1, x.all(0));
        Check.due("not of the other paper", 1, x.all(1));
        x.done(4, 1, 0, 0);
        Check.due("not of the first any more", 2, x.all(0));
        Check.due("but of the other", -1, x.all(1));
        int[] papers = {-1, 2, 4, LEAST, MOST};
        for (int paper : papers) {
            Check.due("all(" + paper + ")", -1, x.all(paper));
        }
        Check.due("all(0) of a new object", -1, new HalfDrop().all(0));
    }
}
