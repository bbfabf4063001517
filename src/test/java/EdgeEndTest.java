/** Promises 24 to 26 at their bounds, sentence by sentence: ENDS, MENDED, BORDER. */
public final class EdgeEndTest {
    private static final int LEAST = Integer.MIN_VALUE;
    private static final int MOST = Integer.MAX_VALUE;

    public static void main(String[] args) {
        lengthsAndPhases();
        howManyEnds();
        justLongEnough();
        phasesOfEnds();
        freeEnds();
        ofItsPaper();
        eachFromItsOwn();
        leastBits();
        noStripWithoutPieces();
        mendedThatCantBe();
        doorsHigherThan();
        noughtAtLeast();
        cutUp();
        bordersThatCantBe();
        Check.finish();
    }

    private static void lengthsAndPhases() {
        Check.sentence("of a PAPER, a length (1 .. 2000), PHASE at its beginning.");
        int[][] due = {{0, 0, 0, -1}, {0, 1, 0, 0}, {0, 2000, 0, 0}, {0, 2001, 0, -1}, {0, -1, 0, -1}, {0, LEAST, 0, -1}, {0, MOST, 0, -1},
            {0, 1, -1, -1}, {0, 1, 59, 0}, {0, 1, 60, -1}, {0, 1, LEAST, -1}, {0, 1, MOST, -1}, {1, 1, 9, 0}, {1, 1, 10, -1}, {1, 1, -1, -1},
            {2, 1, 0, -1}, {-1, 1, 0, -1}, {4, 1, 0, -1}, {LEAST, 1, 0, -1}, {MOST, 1, 0, -1}};
        for (int[] row : due) {
            HalfDrop x = new HalfDrop();
            Check.due("without papers", -1, x.keep(row[0], row[1], row[2]));
            x.paper(50, 60, 0, 300, 1);
            x.paper(50, 10, 1, 300, 1);
            Check.due("keep(" + row[0] + ", " + row[1] + ", " + row[2] + ")", row[3], x.keep(row[0], row[1], row[2]));
            Check.due("ends then", row[3] + 1, x.count(4));
        }
    }

    private static void howManyEnds() {
        Check.sentence("An END: its number; NONE if it can't be, or 10 came.");
        HalfDrop x = Check.withRoom("wall 50 100 100;");
        x.trim(0);
        x.paper(50, 60, 0, 300, 1);
        x.done(0, 0, 0, 0);
        for (int number = 0; number < 10; number++) {
            Check.due("one that can't be", -1, x.keep(0, 0, 0));
            Check.due("end " + number, number, x.keep(0, number == 9 ? 100 : 99, 0));
            Check.due("ends", number + 1, x.count(4));
        }
        Check.sentence("ENDS (at most 10, numbers as they come):");
        Check.due("an 11th", -1, x.keep(0, 100, 0));
        Check.due("ends", 10, x.count(4));
        Check.due("the 10th mends", 512, x.mended(0, 0));
    }

    /** A wall with one strip, without TRIM. */
    private static HalfDrop strip(String room, int repeat, int drop, int base) {
        HalfDrop x = Check.withRoom(room);
        x.trim(0);
        x.paper(50, repeat, drop, 1000, 1);
        x.paper(50, repeat, drop, 1000, 1);
        x.done(0, 0, 0, base);
        return x;
    }

    private static void mended(HalfDrop x, int length, int phase, int want) {
        x.keep(0, length, phase);
        Check.due("mended by " + length + " from " + phase, want, x.mended(0, 0));
    }

    private static void justLongEnough() {
        Check.sentence("A STRIP is MENDED, if its PIECES can be cut from ENDS of its PAPER,");
        String wall = "wall 50 100 100;";
        mended(strip(wall, 60, 0, 20), 99, 20, -1);
        mended(strip(wall, 60, 0, 20), 100, 20, 1);
        // With trims it is longer, and begins earlier in the repeat.
        HalfDrop x = strip(wall, 60, 0, 20);
        x.trim(20);
        x.keep(0, 139, 0);
        Check.due("1 too short with trims", -1, x.mended(0, 0));
        x.keep(0, 140, 0);
        Check.due("just long enough with trims", 2, x.mended(0, 0));
        HalfDrop longest = strip("wall 50 400 400;", 120, 0, 0);
        longest.keep(0, 518, 1);
        Check.due("119 in and 1 too short", -1, longest.mended(0, 0));
        longest.keep(0, 519, 1);
        Check.due("119 in and just long enough", 2, longest.mended(0, 0));
    }

    private static void phasesOfEnds() {
        Check.sentence("of a PAPER, a length (1 .. 2000), PHASE at its beginning.");
        for (int phase = 0; phase < 60; phase++) {
            int in = (20 - phase + 60) % 60;
            mended(strip("wall 50 100 100;", 60, 0, 20), 99 + in, phase, -1);
            mended(strip("wall 50 100 100;", 60, 0, 20), 100 + in, phase, 1);
        }
        // The second strip of a half paper begins 30 later in the repeat.
        HalfDrop x = strip("wall 100 100 100;", 60, 1, 20);
        x.keep(0, 100, 20);
        x.keep(0, 100, 50);
        Check.due("the first strip", 1, x.mended(0, 0));
        Check.due("the second strip", 2, x.mended(0, 1));
    }

    private static void freeEnds() {
        Check.sentence("of a PAPER, a length (1 .. 2000), PHASE at its beginning.");
        for (int phase = 0; phase < 60; phase += 59) {
            mended(strip("wall 50 100 100;", 60, 2, 20), 99, phase, -1);
            mended(strip("wall 50 100 100;", 60, 2, 20), 100, phase, 1);
        }
    }

    private static void ofItsPaper() {
        Check.sentence("can be cut from ENDS of its PAPER,");
        HalfDrop x = strip("wall 50 100 100;", 60, 0, 0);
        x.keep(1, 2000, 0);
        Check.due("of another one like it", -1, x.mended(0, 0));
        x.keep(0, 2000, 0);
        Check.due("of its own", 2, x.mended(0, 0));
        x.done(0, 1, 0, 0);
        Check.due("done with the other", 1, x.mended(0, 0));
    }

    private static final String WINDOW = "wall 50 100 100;window 0 0 50 30 60;";

    private static void eachFromItsOwn() {
        Check.sentence("each from one of its own: the fewest ENDS it takes (a PIECE an END) are told as bits, the least.");
        // 40 long from 0 on and 30 long from 70 on, which is 10 of the repeat
        HalfDrop x = strip(WINDOW, 60, 0, 0);
        x.keep(0, 2000, 0);
        Check.due("one long end doesn't do for two", -1, x.mended(0, 0));
        x.keep(0, 29, 10);
        Check.due("the other 1 too short", -1, x.mended(0, 0));
        x.keep(0, 30, 10);
        Check.due("the other just long enough", 1 + 4, x.mended(0, 0));
        HalfDrop y = strip(WINDOW, 60, 0, 0);
        y.keep(0, 30, 10);
        y.keep(0, 39, 0);
        Check.due("the upper 1 too short", -1, y.mended(0, 0));
        y.keep(0, 40, 0);
        Check.due("the upper just long enough", 1 + 4, y.mended(0, 0));
        // 40 from 0 on is just enough for the lower too, which begins 10 in; 39 is for neither.
        HalfDrop z = strip(WINDOW, 60, 0, 0);
        z.keep(0, 40, 0);
        z.keep(0, 39, 0);
        Check.due("one for either, one for neither", -1, z.mended(0, 0));
        z.keep(0, 40, 0);
        Check.due("two for either", 1 + 4, z.mended(0, 0));
        HalfDrop w = strip(WINDOW, 60, 0, 0);
        w.keep(0, 30, 10);
        w.keep(0, 30, 10);
        Check.due("both for the lower", -1, w.mended(0, 0));
    }

    private static void leastBits() {
        Check.sentence("the fewest ENDS it takes (a PIECE an END) are told as bits, the least.");
        HalfDrop x = strip("wall 50 100 100;", 60, 0, 0);
        x.keep(0, 99, 0);
        x.keep(0, 200, 0);
        x.keep(0, 100, 0);
        Check.due("the first that does, not the best", 2, x.mended(0, 0));
        // Both pieces fit all of them.
        HalfDrop y = strip(WINDOW, 10, 0, 0);
        for (int number = 0; number < 10; number++) {
            y.keep(0, 100, 0);
        }
        Check.due("the first two", 3, y.mended(0, 0));
        // The third for the lower alone; the first two for the upper alone
        HalfDrop z = strip("wall 50 100 100;window 0 0 50 60 70;", 10, 0, 0);
        z.keep(0, 30, 0);
        z.keep(0, 59, 0);
        z.keep(0, 60, 0);
        z.keep(0, 60, 0);
        Check.due("the first and the third", 1 + 4, z.mended(0, 0));
        // The upper needs the first, which the lower could have too.
        HalfDrop w = strip("wall 50 200 200;window 0 0 50 60 100;", 10, 0, 0);
        w.keep(0, 100, 0);
        w.keep(0, 60, 0);
        w.keep(0, 100, 0);
        Check.due("the first for the upper, the second for the lower", 1 + 2, w.mended(0, 0));
        // The last two of ten
        HalfDrop v = strip(WINDOW, 10, 0, 0);
        for (int number = 0; number < 8; number++) {
            v.keep(0, 29, 0);
        }
        v.keep(0, 30, 0);
        v.keep(0, 40, 0);
        Check.due("the last two", 256 + 512, v.mended(0, 0));
    }

    private static void noStripWithoutPieces() {
        Check.sentence("MENDED: ENDS (bits; 0 without PIECES); NONE if it can't be, or there is none such.");
        // The lowest wall with the highest door or window leaves a piece 1 long, so no strip is without pieces.
        String[] openings = {"door 0 0 50 99;", "window 0 0 50 1 99;"};
        for (String opening : openings) {
            HalfDrop x = strip("wall 50 100 100;" + opening, 60, 0, 0);
            Check.due("its first piece", 1, x.piece(0, 0, 3));
            Check.due("without ends", -1, x.mended(0, 0));
            x.keep(0, 1, 0);
            x.keep(0, 1, 39);
            Check.due("with the least ends", opening.startsWith("door") ? 1 : 3, x.mended(0, 0));
        }
    }

    private static void mendedThatCantBe() {
        Check.sentence("NONE if it can't be, or there is none such.");
        HalfDrop x = Check.withRoom("wall 100 100 100;");
        x.paper(50, 60, 2, 300, 1);
        x.keep(0, 2000, 0);
        Check.due("not done", -1, x.mended(0, 0));
        x.done(0, 0, 0, 0);
        Check.due("the first strip", 1, x.mended(0, 0));
        Check.due("the last strip", 1, x.mended(0, 1));
        int[][] wrong = {{0, -1}, {0, 2}, {0, LEAST}, {0, MOST}, {-1, 0}, {1, 0}, {6, 0}, {LEAST, 0}, {MOST, 0}};
        for (int[] w : wrong) {
            Check.due("mended(" + w[0] + ", " + w[1] + ")", -1, x.mended(w[0], w[1]));
        }
        // One strip with two pieces, asked behind a room with two strips
        Check.addRoom(x, "wall 50 100 100;window 0 0 50 30 60;");
        x.keep(0, 2000, 0);
        x.done(1, 0, 0, 0);
        Check.due("the two strips", 2, x.of(0, 8));
        Check.due("the one strip", 3, x.mended(1, 0));
        Check.due("the two strips again", 2, x.of(0, 8));
        Check.due("a strip behind the one", -1, x.mended(1, 1));
    }

    private static void border(HalfDrop x, int higher, int length, int want) {
        Check.due("border(0, " + higher + ", " + length + ")", want, x.border(0, higher, length));
    }

    private static void doorsHigherThan() {
        Check.sentence("BORDER of a ROOM: ROUND less the widths of doors that are higher than a height (0 at least), by a length, cut up.");
        HalfDrop x = Check.withRoom("wall 200 400 400;wall 100 400 400;door 0 0 60 200;door 1 0 40 399;window 0 100 200 50 399;");
        border(x, 0, 50, 4);
        border(x, 199, 50, 4);
        border(x, 200, 50, 6);
        border(x, 200, 65, 4);
        border(x, 398, 65, 4);
        border(x, 399, 65, 5);
        border(x, 399, 50, 6);
        border(x, 400, 50, 6);
        // From 130 to 180: 50 of 200
        HalfDrop z = Check.withRoom("wall 200 400 400;door 0 130 180 200;");
        border(z, 199, 150, 1);
        border(z, 199, 149, 2);
        border(z, 200, 150, 2);
        HalfDrop y = Check.withRoom("wall 100 100 100;door 0 0 50 50;");
        border(y, 49, 50, 1);
        border(y, 50, 50, 2);
    }

    private static void noughtAtLeast() {
        Check.sentence("doors that are higher than a height (0 at least),");
        HalfDrop x = Check.withRoom("wall 50 100 100;door 0 0 49 60;");
        border(x, 0, 50, 1);
        HalfDrop y = Check.withRoom("wall 50 100 100;door 0 0 50 60;");
        border(y, 0, 50, 0);
        HalfDrop z = Check.withRoom("wall 50 100 100;door 0 0 50 60;door 0 0 1 61;");
        border(z, 0, 50, 0);
        border(z, 60, 50, 1);
        HalfDrop w = Check.withRoom("wall 600 100 100;" + "door 0 0 600 99;".repeat(8));
        border(w, 0, 50, 0);
        border(w, 98, 50, 0);
        border(w, 99, 50, 12);
    }

    private static void cutUp() {
        Check.sentence("by a length, cut up.");
        HalfDrop x = Check.withRoom("wall 100 100 100;");
        int[][] due = {{50, 2}, {51, 2}, {99, 2}, {100, 1}, {101, 1}, {2000, 1}};
        for (int[] row : due) {
            border(x, 0, row[0], row[1]);
        }
        border(Check.withRoom("wall 101 100 100;"), 0, 100, 2);
        border(Check.withRoom("wall 101 100 100;"), 0, 50, 3);
        border(Check.withRoom("wall 600 100 100;".repeat(8)), 0, 50, 96);
        border(Check.withRoom("wall 600 100 100;".repeat(8)), 0, 2000, 3);
        border(Check.withRoom("wall 600 100 100;".repeat(8)), 0, 1600, 3);
        border(Check.withRoom("wall 600 100 100;".repeat(8)), 0, 1599, 4);
    }

    private static void bordersThatCantBe() {
        Check.sentence("BORDER (higher 0 .. 400, length 50 .. 2000); NONE if they can't be.");
        HalfDrop x = Check.withRoom("wall 100 100 100;");
        int[][] due = {{0, 50, 2}, {400, 50, 2}, {400, 2000, 1}, {0, 2000, 1}, {-1, 50, -1}, {401, 50, -1}, {0, 49, -1}, {0, 2001, -1}, {0, 0, -1},
            {0, -50, -1}, {LEAST, 50, -1}, {MOST, 50, -1}, {0, LEAST, -1}, {0, MOST, -1}};
        for (int[] row : due) {
            border(x, row[0], row[1], row[2]);
        }
        int[] rooms = {-1, 1, 6, LEAST, MOST};
        for (int room : rooms) {
            Check.due("border of room " + room, -1, x.border(room, 0, 50));
        }
    }
}
