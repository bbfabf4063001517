/** Promises 12 (from which roll), 13, 14 and 23: rolls, left, all. */
public final class RollTest {
    public static void main(String[] args) {
        firstFit();
        free();
        gapsAreUsed();
        fewest();
        fewestByOrder();
        howManyAreTold();
        tooLong();
        allRooms();
        Check.finish();
    }

    private static void firstFit() {
        HalfDrop x = Check.withRoom("wall 100 200 200;");
        Check.due("rolls of a room that isn't done", -1, x.rolls(0, 1));
        Check.due("left in a room that isn't done", -1, x.left(0, 0, 0));
        x.paper(50, 60, 0, 500, 1);
        x.done(0, 0, 0, 5);
        // 210 long with phase 0: at 0 and, behind 210, at 240.
        places(x, new int[][] {{0, 0}, {0, 240}});
        Check.due("fewest", 1, x.rolls(0, 0));
        Check.due("all long by roll", 1, x.rolls(0, 1));
        Check.due("first fit", 1, x.rolls(0, 2));
        Check.due("rolls(0, 3)", -1, x.rolls(0, 3));
        Check.due("rolls(0, -1)", -1, x.rolls(0, -1));
        Check.due("rolls(1, 0)", -1, x.rolls(1, 0));
        Check.due("left", 50, x.left(0, 0, 0));
        Check.due("phase left", 30, x.left(0, 0, 1));
        Check.due("left(0, 0, 2)", -1, x.left(0, 0, 2));
        Check.due("left(0, 0, -1)", -1, x.left(0, 0, -1));
        Check.due("left(0, 1, 0)", -1, x.left(0, 1, 0));
        Check.due("left(0, -1, 0)", -1, x.left(0, -1, 0));
        Check.due("left(1, 0, 0)", -1, x.left(1, 0, 0));
        // With base 56 the phase is 51: at 51 and, behind 261, at 291, which goes to 501.
        x.done(0, 0, 0, 56);
        places(x, new int[][] {{0, 51}, {1, 51}});
        Check.due("first fit", 2, x.rolls(0, 2));
        // With base 55 it ends at 500 just so.
        x.done(0, 0, 0, 55);
        places(x, new int[][] {{0, 50}, {0, 290}});
        Check.due("nothing left", 0, x.left(0, 0, 0));
        Check.due("phase of nothing", 20, x.left(0, 0, 1));
    }

    private static void places(HalfDrop x, int[][] due) {
        for (int piece = 0; piece < due.length; piece++) {
            Check.due("roll of " + piece, due[piece][0], x.piece(0, piece, 5));
            Check.due("place of " + piece, due[piece][1], x.piece(0, piece, 6));
        }
    }

    private static void free() {
        HalfDrop x = Check.withRoom("wall 100 200 200;");
        x.paper(50, 60, 2, 420, 1);
        x.paper(50, 60, 2, 419, 1);
        x.done(0, 0, 0, 59);
        places(x, new int[][] {{0, 0}, {0, 210}});
        Check.due("left", 0, x.left(0, 0, 0));
        x.done(0, 1, 0, 59);
        places(x, new int[][] {{0, 0}, {1, 0}});
        Check.due("left", 209, x.left(0, 1, 0));
        Check.due("phase", 0, x.left(0, 1, 1));
        Check.due("all long by roll", 2, x.rolls(0, 1));
    }

    /** A later piece goes into an earlier roll, if it fits there. */
    private static void gapsAreUsed() {
        HalfDrop x = Check.withRoom("wall 50 200 200;wall 50 200 200;wall 50 100 100;wall 50 200 200;");
        x.trim(0);
        x.paper(50, 60, 2, 300, 1);
        x.done(0, 0, 0, 0);
        places(x, new int[][] {{0, 0}, {1, 0}, {0, 200}, {2, 0}});
        Check.due("left of 0", 0, x.left(0, 0, 0));
        Check.due("left of 1", 100, x.left(0, 1, 0));
        Check.due("left of 2", 100, x.left(0, 2, 0));
        Check.due("first fit", 3, x.rolls(0, 2));
        Check.due("by length", 3, x.rolls(0, 1));
        Check.due("fewest", 3, x.rolls(0, 0));
    }

    private static void fewest() {
        HalfDrop x = Check.withRoom("wall 50 140 140;wall 50 100 100;wall 50 160 160;wall 50 200 200;");
        x.trim(0);
        x.paper(50, 60, 2, 300, 1);
        x.paper(50, 60, 2, 301, 1);
        x.paper(50, 60, 2, 599, 1);
        x.done(0, 0, 0, 0);
        Check.due("fewest", 2, x.rolls(0, 0));
        Check.due("by length", 2, x.rolls(0, 1));
        Check.due("first fit", 3, x.rolls(0, 2));
        x.trim(1);
        Check.due("fewest with a trim", 3, x.rolls(0, 0));
        Check.due("by length with a trim", 3, x.rolls(0, 1));
        x.done(0, 1, 0, 0);
        Check.due("fewest with a trim of 301", 3, x.rolls(0, 0));
        x.trim(0);
        x.done(0, 2, 0, 0);
        Check.due("by length of 599", 2, x.rolls(0, 1));
    }

    /** Two pieces fit one roll in one order alone. */
    private static void fewestByOrder() {
        HalfDrop x = Check.withRoom("wall 50 110 110;wall 50 120 120;");
        x.trim(0);
        x.paper(50, 100, 1, 300, 1);
        // Phases 50 and 0: 50-160 and 200-320 don't fit; 0-120 and 150-260 do.
        x.done(0, 0, 0, 50);
        Check.due("first fit", 2, x.rolls(0, 2));
        Check.due("fewest", 1, x.rolls(0, 0));
        Check.due("by length", 1, x.rolls(0, 1));
    }

    private static void howManyAreTold() {
        HalfDrop x = Check.withRoom("wall 600 200 200;");
        x.paper(50, 60, 0, 1000, 1);
        Check.due("strips", 12, x.done(0, 0, 0, 0));
        // Phase 55, 210 long: at 55, 295, 535 and 775: four a roll.
        Check.due("fewest of 12", 3, x.rolls(0, 0));
        Check.due("first fit of 12", 3, x.rolls(0, 2));
        Check.addRoom(x, "wall 600 200 200;wall 50 200 200;");
        Check.due("strips", 13, x.done(1, 0, 0, 0));
        Check.due("fewest of 13", -1, x.rolls(1, 0));
        Check.due("first fit of 13", 4, x.rolls(1, 2));
        Check.due("by length of 13", 3, x.rolls(1, 1));
        // 12 strips with 13 pieces
        Check.addRoom(x, "wall 600 200 200;window 0 0 50 20 30;");
        Check.due("strips", 12, x.done(2, 0, 0, 0));
        Check.due("pieces", 13, x.of(2, 8));
        Check.due("fewest of 13 pieces", -1, x.rolls(2, 0));
    }

    private static void tooLong() {
        HalfDrop x = Check.withRoom("wall 100 250 250;door 0 0 50 200;");
        x.paper(50, 60, 0, 300, 1);
        // 260 long: with phase 40 it ends at 300.
        x.done(0, 0, 0, 45);
        Check.due("first fit", 2, x.rolls(0, 2));
        x.done(0, 0, 0, 46);
        for (int what = 0; what < 3; what++) {
            Check.due("rolls, one piece too long, " + what, -1, x.rolls(0, what));
        }
        for (int piece = 0; piece < 2; piece++) {
            Check.due("roll of " + piece, -1, x.piece(0, piece, 5));
            Check.due("place of " + piece, -1, x.piece(0, piece, 6));
        }
        Check.due("long all the same", 260, x.piece(0, 1, 3));
        Check.due("phase all the same", 41, x.piece(0, 1, 4));
        Check.due("left", -1, x.left(0, 0, 0));
        Check.due("all", -1, x.all(0));
    }

    private static void allRooms() {
        HalfDrop x = Check.withRoom("wall 50 200 200;");
        Check.addRoom(x, "wall 50 100 100;");
        Check.addRoom(x, "wall 50 200 200;");
        Check.addRoom(x, "wall 50 400 400;");
        x.trim(0);
        Check.due("all of no paper", -1, x.all(0));
        x.paper(50, 60, 2, 300, 1);
        x.paper(50, 60, 2, 2000, 1);
        Check.due("all of no room", 0, x.all(0));
        x.done(0, 0, 0, 0);
        x.done(1, 0, 0, 0);
        x.done(2, 0, 0, 0);
        Check.due("all of three", 2, x.all(0));
        x.done(1, 1, 0, 0);
        Check.due("all of two", 2, x.all(0));
        Check.due("all of the other", 1, x.all(1));
        x.done(0, 1, 0, 0);
        Check.due("all of one", 1, x.all(0));
        x.done(3, 0, 0, 0);
        Check.due("all with one too long", -1, x.all(0));
        x.done(3, 1, 0, 0);
        Check.due("all of the other three", 1, x.all(1));
        Check.due("all(-1)", -1, x.all(-1));
        Check.due("all(2)", -1, x.all(2));
        // By rooms, not by when they were done: 100, 200 and 200 of 300 is 2; with 200, 200, 100 too, so lengths 120 tell.
        HalfDrop y = Check.withRoom("wall 50 140 140;");
        Check.addRoom(y, "wall 50 100 100;");
        Check.addRoom(y, "wall 50 160 160;");
        Check.addRoom(y, "wall 50 200 200;");
        y.trim(0);
        y.paper(50, 60, 2, 300, 1);
        int[] order = {0, 2, 1, 3};
        for (int room : order) {
            y.done(room, 0, 0, 0);
        }
        Check.due("all by rooms", 3, y.all(0));
    }
}
