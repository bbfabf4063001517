/** Promises 17 to 19: shown, run, cuts. */
public final class LeanTest {
    public static void main(String[] args) {
        threeWalls();
        cutsThatHelp();
        likeOnes();
        oneWall();
        refused();
        Check.finish();
    }

    private static void threeWalls() {
        // Runs off by 25 and by 23.31 the other way, which is cut to 23; the last corner doesn't count.
        HalfDrop x = Check.withRoom("wall 100 200 250;wall 100 250 333;wall 100 300 300;lean 0 10;lean 1 - 7;lean 2 50;");
        int[][] runs = {{0, 25, 2}, {0, 0, -23}, {0, 25, 0}, {0, 0, 0}};
        int[] shown = {27, 73, 29, 96};
        for (int cuts = 0; cuts < 4; cuts++) {
            for (int wall = 0; wall < 3; wall++) {
                Check.due("run(0, " + cuts + ", " + wall + ")", runs[cuts][wall], x.run(0, cuts, wall));
            }
            Check.due("shown(0, " + cuts + ")", shown[cuts], x.shown(0, cuts));
        }
        Check.due("cuts", 0, x.cuts(0));
        Check.due("the corner's height is the left wall's", 50, Check.withRoom("wall 100 300 100;wall 100 400 400;lean 0 50;").run(0, 0, 1));
    }

    private static void cutsThatHelp() {
        HalfDrop x = Check.withRoom("wall 50 400 400;".repeat(8) + "lean 0 50;");
        Check.due("shown without", 1400, x.shown(0, 0));
        Check.due("shown, cut at once", 400, x.shown(0, 1));
        Check.due("shown, cut one later", 600, x.shown(0, 2));
        Check.due("cuts", 1, x.cuts(0));
        HalfDrop y = Check.withRoom("wall 50 400 400;".repeat(8) + "lean 3 - 50;");
        Check.due("shown, below 0", 800, y.shown(0, 0));
        Check.due("shown, cut there", 400, y.shown(0, 8));
        Check.due("cuts", 8, y.cuts(0));
        Check.due("run behind it", -200, y.run(0, 0, 7));
        HalfDrop z = Check.withRoom("wall 50 400 400;".repeat(8) + "lean 0 50;lean 4 50;");
        // 400 for the first corner and 400 for the fifth; left alone, the fifth shows 600.
        Check.due("cuts", 17, z.cuts(0));
        Check.due("shown", 800, z.shown(0, 17));
    }

    private static void likeOnes() {
        // Uncut 100 + 100, cut 2 * 100: the fewest are none.
        HalfDrop x = Check.withRoom("wall 50 400 400;wall 50 400 400;wall 50 400 400;lean 0 25;");
        Check.due("shown without", 200, x.shown(0, 0));
        Check.due("shown, cut", 200, x.shown(0, 1));
        Check.due("cuts", 0, x.cuts(0));
        // A cut where nothing runs off shows nothing, so more of them are like it.
        HalfDrop y = Check.withRoom("wall 50 400 400;".repeat(5) + "lean 1 25;");
        Check.due("shown", 200, y.shown(0, 2));
        Check.due("shown with more cuts", 200, y.shown(0, 15));
        Check.due("cuts", 2, y.cuts(0));
        // Uncut 30, 20, 30, 20; cut at the first corner 60, 10, 0, 10, at the second 30, 40, 10, 0: the least bits.
        HalfDrop z = Check.withRoom("wall 50 100 100;".repeat(5) + "lean 0 30;lean 1 - 10;lean 2 10;lean 3 - 10;");
        Check.due("shown without", 100, z.shown(0, 0));
        Check.due("shown, cut at the first", 80, z.shown(0, 1));
        Check.due("shown, cut at the second", 80, z.shown(0, 2));
        Check.due("cuts", 1, z.cuts(0));
    }

    private static void oneWall() {
        HalfDrop x = Check.withRoom("wall 50 400 400;lean 0 50;");
        Check.due("shown", 0, x.shown(0, 0));
        Check.due("run", 0, x.run(0, 0, 0));
        Check.due("cuts", 0, x.cuts(0));
        Check.due("shown(0, 1)", -1, x.shown(0, 1));
        Check.due("run(0, 1, 0)", HalfDrop.VOID, x.run(0, 1, 0));
    }

    private static void refused() {
        HalfDrop x = Check.withRoom("wall 50 400 400;".repeat(8));
        Check.due("all corners", 0, x.shown(0, 127));
        Check.due("the last corner", -1, x.shown(0, 128));
        Check.due("cuts below 0", -1, x.shown(0, -1));
        Check.due("cuts least", -1, x.shown(0, Integer.MIN_VALUE));
        Check.due("no room", -1, x.shown(1, 0));
        Check.due("no room", -1, x.shown(-1, 0));
        Check.due("run, last corner", HalfDrop.VOID, x.run(0, 128, 0));
        Check.due("run, below 0", HalfDrop.VOID, x.run(0, -1, 0));
        Check.due("run, wall 8", HalfDrop.VOID, x.run(0, 0, 8));
        Check.due("run, wall -1", HalfDrop.VOID, x.run(0, 0, -1));
        Check.due("run, no room", HalfDrop.VOID, x.run(1, 0, 0));
        Check.due("run", 0, x.run(0, 127, 7));
        Check.due("cuts, no room", -1, x.cuts(1));
        Check.due("cuts, room -1", -1, x.cuts(-1));
    }
}
