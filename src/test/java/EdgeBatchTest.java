/** Promises 20 to 22 at their bounds, sentence by sentence: BATCHES, own rolls, SHARED. */
public final class EdgeBatchTest {
    private static final int LEAST = Integer.MIN_VALUE;
    private static final int MOST = Integer.MAX_VALUE;

    public static void main(String[] args) {
        rollsOfBatches();
        howManyBatches();
        leftSides();
        ownRolls();
        noOwnRolls();
        ownThatCantBe();
        noMoreThanItHas();
        ofThisRoom();
        greatestNeeds();
        ofItsPaper();
        seenCorners();
        doorsAtCorners();
        likeOnes();
        sharedThatCantBe();
        Check.finish();
    }

    private static void rollsOfBatches() {
        Check.sentence("A BATCH: its number; NONE if it can't be, or 4 came.");
        int[][] due = {{0, 0, -1}, {0, 1, 0}, {0, 30, 0}, {0, 31, -1}, {0, -1, -1}, {0, LEAST, -1}, {0, MOST, -1},
            {1, 1, 0}, {2, 1, -1}, {-1, 1, -1}, {4, 1, -1}, {LEAST, 1, -1}, {MOST, 1, -1}};
        for (int[] row : due) {
            HalfDrop x = new HalfDrop();
            Check.due("without papers", -1, x.batch(row[0], row[1]));
            x.paper(50, 60, 0, 1000, 1);
            x.paper(50, 60, 0, 1000, 1);
            Check.due("batch(" + row[0] + ", " + row[1] + ")", row[2], x.batch(row[0], row[1]));
            Check.due("batches then", row[2] + 1, x.count(3));
        }
    }

    private static void howManyBatches() {
        Check.sentence("BATCHES (at most 4, numbers as they come)");
        HalfDrop x = new HalfDrop();
        x.paper(50, 60, 0, 1000, 1);
        x.paper(50, 60, 0, 1000, 1);
        for (int number = 0; number < 4; number++) {
            Check.due("one that can't be", -1, x.batch(0, 31));
            Check.due("batch " + number, number, x.batch(number & 1, 1 + number));
            Check.due("batches", number + 1, x.count(3));
        }
        Check.due("a 5th", -1, x.batch(0, 1));
        Check.due("a 5th, of the other", -1, x.batch(1, 30));
        Check.due("batches", 4, x.count(3));
    }

    /** Strips 50 wide, a roll each. */
    private static HalfDrop roomOf(String walls) {
        HalfDrop x = Check.withRoom(walls);
        x.paper(50, 60, 2, 400, 1);
        x.paper(50, 60, 2, 400, 1);
        x.done(0, 0, 0, 0);
        return x;
    }

    private static void own(HalfDrop x, int... due) {
        for (int wall = 0; wall < due.length; wall++) {
            Check.due("own(0, " + wall + ") from " + x.of(0, 5), due[wall], x.own(0, wall));
        }
    }

    private static void leftSides() {
        Check.sentence("A WALL's own rolls are FIRST FIT of the PIECES of STRIPS whose left sides lie on it (0 without).");
        HalfDrop x = roomOf("wall 100 300 300;wall 100 300 300;wall 60 300 300;");
        // Strips from 0, 50, 100, 150, 200 and 250, the last 10 wide
        own(x, 2, 2, 2);
        x.done(0, 0, 1, 0);
        // From 1, 51, 101, 151, 201, 251
        own(x, 2, 2, 2);
        x.done(0, 0, 99, 0);
        // From 99, 149, 199, 249, 39, 89
        own(x, 3, 2, 1);
        x.done(0, 0, 100, 0);
        // From 100, 150, 200, 250, 40, 90
        own(x, 2, 2, 2);
        x.done(0, 0, 259, 0);
        // From 259, 49, 99, 149, 199, 249
        own(x, 2, 2, 2);
        x.done(0, 0, 10, 0);
        // From 10, 60, 110, 160, 210, and from 260 on, which is 0
        own(x, 3, 2, 1);
    }

    private static void ownRolls() {
        Check.sentence("A WALL's own rolls are FIRST FIT of the PIECES of STRIPS whose left sides lie on it (0 without).");
        HalfDrop x = Check.withRoom("wall 100 200 200;wall 100 200 200;");
        x.trim(0);
        x.paper(50, 60, 2, 400, 1);
        x.paper(50, 60, 2, 399, 1);
        x.paper(50, 60, 0, 440, 1);
        x.paper(50, 60, 0, 439, 1);
        int[] due = {1, 2, 1, 2};
        for (int paper = 0; paper < 4; paper++) {
            x.done(0, paper, 0, 0);
            own(x, due[paper], due[paper]);
        }
    }

    private static void noOwnRolls() {
        Check.sentence("of STRIPS whose left sides lie on it (0 without).");
        HalfDrop x = Check.withRoom("wall 50 300 300;wall 50 300 300;wall 50 300 300;");
        x.paper(120, 60, 2, 400, 1);
        x.done(0, 0, 0, 0);
        // From 0 and 120
        own(x, 1, 0, 1);
        x.done(0, 0, 49, 0);
        // From 49 and 19
        own(x, 2, 0, 0);
        x.done(0, 0, 50, 0);
        // From 50 and 20
        own(x, 1, 1, 0);
    }

    private static void ownThatCantBe() {
        Check.sentence("A WALL's own rolls; NONE if there is none such, it isn't DONE, or there is none.");
        HalfDrop x = Check.withRoom("wall 50 300 300;wall 50 301 301;");
        x.trim(0);
        x.paper(50, 60, 2, 300, 1);
        Check.due("not done", -1, x.own(0, 0));
        x.done(0, 0, 0, 0);
        own(x, 1, -1);
        int[][] wrong = {{0, -1}, {0, 2}, {0, 8}, {0, LEAST}, {0, MOST}, {-1, 0}, {1, 0}, {6, 0}, {MOST, 0}};
        for (int[] w : wrong) {
            Check.due("own(" + w[0] + ", " + w[1] + ")", -1, x.own(w[0], w[1]));
        }
        HalfDrop eight = roomOf("wall 50 300 300;".repeat(8));
        Check.due("the 8th wall", 1, eight.own(0, 7));
        Check.due("a 9th wall", -1, eight.own(0, 8));
    }

    private static void shared(HalfDrop x, int seen, int... walls) {
        Check.due("seen", seen, x.shared(0, -1));
        for (int wall = 0; wall < walls.length; wall++) {
            Check.due("batch of wall " + wall, walls[wall], x.shared(0, wall));
        }
    }

    private static HalfDrop batches(String walls, int... rolls) {
        HalfDrop x = roomOf(walls);
        for (int each : rolls) {
            x.batch(0, each);
        }
        return x;
    }

    private static final String FOUR = "wall 100 300 300;".repeat(4);

    private static void noMoreThanItHas() {
        Check.sentence("SHARED is a DONE ROOM: each WALL from one BATCH of its PAPER, none giving more rolls than it has (of this ROOM);");
        shared(batches(FOUR, 8), 0, 0, 0, 0, 0);
        shared(batches(FOUR, 7), -1, -1, -1, -1, -1);
        shared(batches(FOUR, 7, 1), -1, -1, -1, -1, -1);
        shared(batches(FOUR, 7, 2), 2, 0, 0, 0, 1);
        shared(batches(FOUR, 6, 2), 2, 0, 0, 0, 1);
        shared(batches(FOUR, 5, 2), -1, -1, -1, -1, -1);
        shared(batches(FOUR, 5, 3), -1, -1, -1, -1, -1);
        shared(batches(FOUR, 5, 4), 2, 0, 0, 1, 1);
        shared(batches(FOUR, 2, 2, 2, 2), 4, 0, 1, 2, 3);
        shared(batches(FOUR, 2, 2, 2, 1), -1, -1, -1, -1, -1);
        shared(batches(FOUR), -1, -1, -1, -1, -1);
        // A wall is of one batch, though two would have enough together.
        shared(batches("wall 100 300 300;", 1, 1), -1, -1);
        shared(batches("wall 100 300 300;", 1, 2), 0, 1);
    }

    private static void ofThisRoom() {
        Check.sentence("none giving more rolls than it has (of this ROOM);");
        HalfDrop x = batches(FOUR, 8);
        Check.addRoom(x, FOUR);
        x.done(1, 0, 0, 0);
        for (int room = 0; room < 2; room++) {
            Check.due("seen in room " + room, 0, x.shared(room, -1));
            Check.due("batch in room " + room, 0, x.shared(room, 3));
        }
        shared(x, 0, 0, 0, 0, 0);
    }

    private static void greatestNeeds() {
        Check.sentence("are so many rolls (1 .. 30) of a PAPER.");
        HalfDrop x = Check.withRoom("wall 600 300 300;wall 61 300 300;");
        x.paper(20, 60, 2, 400, 1);
        x.batch(0, 30);
        x.batch(0, 3);
        x.done(0, 0, 0, 0);
        own(x, 30, 4);
        shared(x, -1, -1, -1);
        x.batch(0, 4);
        shared(x, 2, 0, 2);
        // From 1 on, the last strip, 1 wide, begins at 0.
        x.done(0, 0, 1, 0);
        own(x, 31, 3);
        shared(x, -1, -1, -1);
    }

    private static void ofItsPaper() {
        Check.sentence("each WALL from one BATCH of its PAPER,");
        HalfDrop x = roomOf(FOUR);
        x.batch(1, 30);
        shared(x, -1, -1, -1, -1, -1);
        x.batch(0, 8);
        shared(x, 0, 1, 1, 1, 1);
        x.done(0, 1, 0, 0);
        shared(x, 0, 0, 0, 0, 0);
        // A wall that needs nothing is from one of its paper too.
        HalfDrop y = Check.withRoom("wall 50 300 300;wall 50 300 300;");
        y.paper(120, 60, 2, 400, 1);
        y.paper(120, 60, 2, 400, 1);
        y.done(0, 0, 0, 0);
        y.batch(1, 30);
        shared(y, -1, -1, -1);
        y.batch(0, 1);
        shared(y, 0, 1, 1);
    }

    private static void seenCorners() {
        Check.sentence("SEEN are corners (that right of the last WALL, too; none with one WALL) at which the BATCHES are unlike,");
        shared(batches("wall 100 300 300;", 2), 0, 0);
        shared(batches("wall 100 300 300;wall 100 300 300;", 2, 2), 2, 0, 1);
        shared(batches("wall 100 300 300;wall 100 300 300;wall 100 300 300;", 2, 2, 2), 3, 0, 1, 2);
        shared(batches("wall 100 300 300;wall 100 300 300;wall 100 300 300;", 4, 2), 2, 0, 0, 1);
        // At the last corner alone nothing can be unlike; two at least are.
        shared(batches("wall 50 300 300;".repeat(8), 7, 1), 2, 0, 0, 0, 0, 0, 0, 0, 1);
        shared(batches("wall 50 300 300;".repeat(8), 2, 2, 2, 2), 4, 0, 0, 1, 1, 2, 2, 3, 3);
    }

    private static void doorsAtCorners() {
        Check.sentence("at which the BATCHES are unlike, unless a door is at that corner.");
        String two = "wall 100 300 300;wall 100 300 300;";
        // left of the first corner, right of it, left of the last, right of it
        String[] doors = {"door 0 99 100 50;", "door 1 0 1 50;", "door 1 99 100 50;", "door 0 0 1 50;"};
        for (String door : doors) {
            shared(batches(two + door, 2, 2), 1, 0, 1);
        }
        shared(batches(two + doors[0] + doors[1], 2, 2), 1, 0, 1);
        shared(batches(two + doors[0] + doors[2], 2, 2), 0, 0, 1);
        shared(batches(two + doors[1] + doors[3], 2, 2), 0, 0, 1);
        shared(batches(two + "door 0 0 100 50;", 2, 2), 0, 0, 1);
        String[] apart = {"door 0 98 99 50;", "door 1 1 2 50;", "door 1 98 99 50;", "door 0 1 2 50;", "window 0 99 100 1 2;", "window 1 0 1 1 2;",
            "window 0 0 100 1 299;"};
        for (String opening : apart) {
            shared(batches(two + opening, 2, 2), 2, 0, 1);
        }
        // As many doors as there can be, the last of them at the corner or none
        String seven = two + "door 0 1 2 50;".repeat(7);
        shared(batches(seven + "door 0 1 2 50;", 2, 2), 2, 0, 1);
        shared(batches(seven + "door 0 99 100 50;", 2, 2), 1, 0, 1);
        // Of three walls that one is apart which has the door at one of its corners.
        shared(batches("wall 100 300 300;".repeat(3) + "door 1 99 100 50;", 4, 2), 1, 0, 0, 1);
        shared(batches("wall 100 300 300;".repeat(3) + "door 0 99 100 50;", 4, 2), 1, 0, 1, 0);
    }

    private static void likeOnes() {
        Check.sentence("The fewest SEEN, of like ones the first by WALL 0's BATCH, then WALL 1's.");
        shared(batches(FOUR, 8, 8), 0, 0, 0, 0, 0);
        shared(batches(FOUR, 4, 8), 0, 1, 1, 1, 1);
        shared(batches(FOUR, 4, 4, 4), 2, 0, 0, 1, 1);
        shared(batches(FOUR, 2, 6), 2, 0, 1, 1, 1);
        shared(batches(FOUR, 6, 4), 2, 0, 0, 0, 1);
        shared(batches(FOUR, 4, 2, 4), 2, 0, 0, 2, 2);
        // All corners hidden: each wall takes the first that has enough left.
        String hidden = FOUR + "door 0 0 100 50;door 2 0 100 50;";
        shared(batches(hidden, 2, 4, 8), 0, 0, 1, 1, 2);
        shared(batches(hidden, 3, 3, 3, 3), 0, 0, 1, 2, 3);
    }

    private static void sharedThatCantBe() {
        Check.sentence("SHARED: how many are SEEN (wall NONE), or the BATCH of a WALL; NONE if there are none such, it isn't DONE, or it can't be SHARED.");
        HalfDrop x = batches(FOUR, 30);
        int[][] wrong = {{0, -2}, {0, 4}, {0, 8}, {0, LEAST}, {0, MOST}, {-1, -1}, {-1, 0}, {1, -1}, {1, 0}, {6, 0}, {MOST, 0}};
        for (int[] w : wrong) {
            Check.due("shared(" + w[0] + ", " + w[1] + ")", -1, x.shared(w[0], w[1]));
        }
        shared(x, 0, 0, 0, 0, 0);
        Check.addRoom(x, FOUR);
        Check.due("not done, seen", -1, x.shared(1, -1));
        Check.due("not done, wall 0", -1, x.shared(1, 0));
        // One piece too long: there are no rolls that it would take.
        HalfDrop y = Check.withRoom("wall 50 400 400;wall 50 400 400;");
        y.paper(50, 60, 2, 410, 1);
        y.batch(0, 30);
        y.done(0, 0, 0, 0);
        shared(y, 0, 0, 0);
        y.trim(6);
        shared(y, -1, -1, -1);
    }
}
