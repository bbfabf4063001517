/** Promises 17 to 19 at their bounds, sentence by sentence: RUN, SHOWN, LEAST cuts. */
public final class EdgeLeanTest {
    private static final int VOID = HalfDrop.VOID;
    private static final int LEAST = Integer.MIN_VALUE;
    private static final int MOST = Integer.MAX_VALUE;

    public static void main(String[] args) {
        runsOff();
        heightsOfCorners();
        lastCorner();
        cutAnew();
        shown();
        leastCuts();
        likeCuts();
        cutsThatCantBe();
        Check.finish();
    }

    private static void runsOff() {
        Check.sentence("LEANING: at each corner that leans, the pattern runs off by M times the HEIGHT (K of the WALL) by 100 (cut),");
        // K, M, what it runs off
        int[][] due = {{100, 0, 0}, {100, 1, 1}, {199, 1, 1}, {200, 1, 2}, {100, 50, 50}, {400, 50, 200}, {399, 50, 199}, {101, 49, 49}, {333, 7, 23}};
        for (int[] row : due) {
            String walls = "wall 50 100 " + row[0] + ";wall 50 100 100;";
            Check.due("off by " + row[1] + " of " + row[0], row[2], Check.withRoom(walls + "lean 0 " + row[1] + ";").run(0, 0, 1));
            Check.due("off by - " + row[1] + " of " + row[0], -row[2], Check.withRoom(walls + "lean 0 - " + row[1] + ";").run(0, 0, 1));
        }
        Check.due("a corner that doesn't lean", 0, Check.withRoom("wall 50 100 100;wall 50 100 100;").run(0, 0, 1));
        // Each one is cut for itself: 1.99 and 1.99 and 1.99
        HalfDrop x = Check.withRoom("wall 50 100 199;wall 50 100 199;wall 50 100 199;wall 50 100 100;lean 0 1;lean 1 1;lean 2 1;");
        for (int wall = 0; wall < 4; wall++) {
            Check.due("run of " + wall, wall, x.run(0, 0, wall));
        }
    }

    private static void heightsOfCorners() {
        Check.sentence("by M times the HEIGHT (K of the WALL) by 100 (cut), from the first WALL on;");
        HalfDrop x = Check.withRoom("wall 50 300 100;wall 50 400 200;wall 50 100 300;lean 0 10;lean 1 10;lean 2 10;");
        int[] due = {0, 10, 30};
        for (int wall = 0; wall < 3; wall++) {
            Check.due("run of " + wall, due[wall], x.run(0, 0, wall));
        }
    }

    private static void lastCorner() {
        Check.sentence("RUN of a WALL is what came together at corners left of it (the corner right of the last WALL doesn't count), since it was cut anew.");
        for (int walls = 1; walls <= 8; walls++) {
            HalfDrop x = Check.withRoom("wall 50 100 100;".repeat(walls) + "lean " + (walls - 1) + " 50;");
            for (int wall = 0; wall < walls; wall++) {
                Check.due("run of " + wall + " of " + walls, 0, x.run(0, 0, wall));
            }
            Check.due("shown of " + walls, 0, x.shown(0, 0));
            Check.due("cuts of " + walls, 0, x.cuts(0));
        }
        HalfDrop y = Check.withRoom("wall 50 100 100;wall 50 100 100;wall 50 100 100;lean 0 20;lean 1 - 50;lean 2 50;");
        int[] due = {0, 20, -30};
        for (int wall = 0; wall < 3; wall++) {
            Check.due("run of " + wall, due[wall], y.run(0, 0, wall));
        }
    }

    private static HalfDrop fourWalls() {
        return Check.withRoom("wall 50 100 100;".repeat(4) + "lean 0 10;lean 1 - 30;lean 2 5;lean 3 50;");
    }

    private static void cutAnew() {
        Check.sentence("Cut anew at a corner (bits, by the WALLS left of them) it begins with 0.");
        int[][] due = {{0, 10, -20, -15}, {0, 0, -30, -25}, {0, 10, 0, 5}, {0, 0, 0, 5}, {0, 10, -20, 0}, {0, 0, -30, 0}, {0, 10, 0, 0}, {0, 0, 0, 0}};
        HalfDrop x = fourWalls();
        for (int cuts = 0; cuts < 8; cuts++) {
            for (int wall = 0; wall < 4; wall++) {
                Check.due("run(0, " + cuts + ", " + wall + ")", due[cuts][wall], x.run(0, cuts, wall));
            }
        }
    }

    private static void shown() {
        Check.sentence("SHOWN: |RUN| of all WALLS, and twice |RUN| as it would be at each corner at which it is cut.");
        // 10 + 20 + 15; 20 + 30 + 25; 10 + 40 + 5; 20 + 60 + 5; 10 + 20 + 30; 20 + 30 + 50; 10 + 40 + 10; 20 + 60 + 10
        int[] due = {45, 75, 55, 85, 60, 100, 60, 90};
        HalfDrop x = fourWalls();
        for (int cuts = 0; cuts < 8; cuts++) {
            Check.due("shown(0, " + cuts + ")", due[cuts], x.shown(0, cuts));
        }
        HalfDrop most = Check.withRoom("wall 50 400 400;".repeat(8) + "lean 0 50;lean 1 50;lean 2 50;lean 3 50;lean 4 50;lean 5 50;lean 6 50;");
        Check.due("the most uncut", 200 * 28, most.shown(0, 0));
        Check.due("cut at all corners", 2 * 200 * 7, most.shown(0, 127));
        Check.due("the last wall's run", 1400, most.run(0, 0, 7));
    }

    private static void leastCuts() {
        Check.sentence("LEAST cuts are those with the least SHOWN,");
        Check.due("none", 0, fourWalls().cuts(0));
        // Over n walls behind it 100 shows n * 100, cut at once 200.
        int[] due = {0, 0, 0, 0, 1, 1, 1, 1, 1};
        for (int walls = 2; walls <= 8; walls++) {
            HalfDrop x = Check.withRoom("wall 50 400 400;".repeat(walls) + "lean 0 25;");
            Check.due("cuts of " + walls, due[walls], x.cuts(0));
        }
        // One wall is behind it: a cut there would show twice as much.
        HalfDrop y = Check.withRoom("wall 50 400 400;".repeat(8) + "lean 6 50;");
        Check.due("the last that can be cut", 0, y.cuts(0));
        HalfDrop z = Check.withRoom("wall 50 400 400;".repeat(8) + "lean 4 50;");
        Check.due("three walls behind it", 16, z.cuts(0));
        // Two cuts are better than one: 400 for the first corner and 400 for the fifth, which would show 600.
        HalfDrop w = Check.withRoom("wall 50 400 400;".repeat(8) + "lean 0 50;lean 4 50;");
        Check.due("two of them", 1 + 16, w.cuts(0));
    }

    private static void likeCuts() {
        Check.sentence("of like ones the fewest, then the least bits.");
        // Uncut 100 + 100 and cut 200 are like: the fewest.
        HalfDrop x = Check.withRoom("wall 50 400 400;".repeat(3) + "lean 0 25;");
        Check.due("uncut", 200, x.shown(0, 0));
        Check.due("cut", 200, x.shown(0, 1));
        Check.due("cuts", 0, x.cuts(0));
        // Nothing leans: all are like.
        Check.due("nothing leans", 0, Check.withRoom("wall 50 400 400;".repeat(8)).cuts(0));
        // One cut at the first corner or at the second are like: 60 + 10 + 0 + 10, 30 + 40 + 10 + 0.
        HalfDrop y = Check.withRoom("wall 50 100 100;".repeat(5) + "lean 0 30;lean 1 - 10;lean 2 10;lean 3 - 10;");
        Check.due("at the first", 80, y.shown(0, 1));
        Check.due("at the second", 80, y.shown(0, 2));
        Check.due("cuts", 1, y.cuts(0));
        // Cut at the first two 100 + 20 + 30 + 0 + 10, at the third alone 50 + 40 + 20 + 30 + 20: the fewest, though more as bits.
        HalfDrop w = Check.withRoom("wall 50 100 100;".repeat(6) + "lean 0 50;lean 1 - 10;lean 2 - 30;lean 3 30;lean 4 - 10;");
        Check.due("uncut", 170, w.shown(0, 0));
        Check.due("cut at the first two", 160, w.shown(0, 3));
        Check.due("cut at the third", 160, w.shown(0, 4));
        Check.due("cuts", 4, w.cuts(0));
        // Uncut 50 + 0 + 0 + 50 * 4; cut at the fourth 50 + 100, and where nothing runs off a cut more shows nothing.
        HalfDrop z = Check.withRoom("wall 50 100 100;".repeat(8) + "lean 0 50;lean 1 - 50;lean 3 50;");
        Check.due("uncut", 250, z.shown(0, 0));
        Check.due("cut at the fourth", 150, z.shown(0, 8));
        Check.due("cut at the third and fourth", 150, z.shown(0, 12));
        Check.due("cuts", 8, z.cuts(0));
    }

    private static void cutsThatCantBe() {
        int[] wrong = {-1, LEAST, MOST};
        for (int walls = 1; walls <= 8; walls++) {
            HalfDrop x = Check.withRoom("wall 50 100 100;".repeat(walls));
            int behind = 1 << walls - 1;
            Check.sentence("SHOWN of a ROOM, cut anew at corners (bits of WALLS but the last); NONE if they can't be.");
            Check.due("no cut", 0, x.shown(0, 0));
            Check.due("all of " + walls, 0, x.shown(0, behind - 1));
            Check.due("at the last of " + walls, -1, x.shown(0, behind));
            Check.due("at the last and all ahead", -1, x.shown(0, 2 * behind - 1));
            for (int cuts : wrong) {
                Check.due("shown(0, " + cuts + ")", -1, x.shown(0, cuts));
            }
            Check.sentence("RUN of a WALL, cut so; VOID if there are none such.");
            Check.due("all of " + walls, 0, x.run(0, behind - 1, 0));
            Check.due("at the last of " + walls, VOID, x.run(0, behind, 0));
            Check.due("the last wall", 0, x.run(0, 0, walls - 1));
            Check.due("a wall behind it", VOID, x.run(0, 0, walls));
            for (int value : wrong) {
                Check.due("run(0, " + value + ", 0)", VOID, x.run(0, value, 0));
                Check.due("run(0, 0, " + value + ")", VOID, x.run(0, 0, value));
            }
        }
        HalfDrop x = Check.withRoom("wall 50 100 100;");
        int[] rooms = {-1, 1, 6, LEAST, MOST};
        for (int room : rooms) {
            Check.sentence("SHOWN of a ROOM, cut anew at corners (bits of WALLS but the last); NONE if they can't be.");
            Check.due("shown of room " + room, -1, x.shown(room, 0));
            Check.sentence("RUN of a WALL, cut so; VOID if there are none such.");
            Check.due("run of room " + room, VOID, x.run(room, 0, 0));
            Check.sentence("LEAST cuts of a ROOM; NONE if there is none such.");
            Check.due("cuts of room " + room, -1, x.cuts(room));
        }
        Check.due("cuts of the last room", 0, x.cuts(0));
        Check.sentence("There is none of what may be below 0.");
        Check.due("the least number there is", Integer.MIN_VALUE, HalfDrop.VOID);
        Check.sentence("The constants: `NONE = -1`: There is none.");
        Check.due("one below 0", -1, HalfDrop.NONE);
    }
}
