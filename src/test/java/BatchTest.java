/** Promises 20 to 22: batch, shared, own. */
public final class BatchTest {
    public static void main(String[] args) {
        batches();
        own();
        ownTooLong();
        shared();
        doorsHide();
        oneWall();
        wallsWithoutRolls();
        refused();
        Check.finish();
    }

    private static void batches() {
        HalfDrop x = new HalfDrop();
        Check.due("no paper", -1, x.batch(0, 1));
        x.paper(50, 60, 0, 1000, 1);
        Check.due("0 rolls", -1, x.batch(0, 0));
        Check.due("31 rolls", -1, x.batch(0, 31));
        Check.due("-1 rolls", -1, x.batch(0, -1));
        Check.due("paper 1", -1, x.batch(1, 1));
        Check.due("paper -1", -1, x.batch(-1, 1));
        Check.due("batches", 0, x.count(3));
        for (int n = 0; n < 4; n++) {
            Check.due("batch " + n, n, x.batch(0, n == 0 ? 1 : 30));
        }
        Check.due("a 5th", -1, x.batch(0, 1));
        Check.due("batches", 4, x.count(3));
    }

    /** Walls of 100 with strips of 50, one roll a strip. */
    private static HalfDrop fourWalls(String more) {
        HalfDrop x = Check.withRoom("wall 100 300 300;wall 100 300 300;wall 100 300 300;wall 100 300 300;" + more);
        x.paper(50, 60, 2, 400, 1);
        x.paper(50, 60, 2, 400, 1);
        x.done(0, 0, 0, 0);
        return x;
    }

    private static void own() {
        HalfDrop x = Check.withRoom("wall 100 300 300;wall 50 300 300;wall 60 300 300;");
        x.paper(50, 60, 2, 620, 1);
        Check.due("own of a room that isn't done", -1, x.own(0, 0));
        x.done(0, 0, 0, 0);
        // Strips from 0, 50, 100, 150 and 200, two a roll.
        Check.due("own of 0", 1, x.own(0, 0));
        Check.due("own of 1", 1, x.own(0, 1));
        Check.due("own of 2", 1, x.own(0, 2));
        x.done(0, 0, 99, 0);
        // From 99 and 39 on the first, from 149 on the second, from 199 and 249 less 210, 39, on the third and first; then 89.
        Check.due("strips", 5, x.of(0, 7));
        Check.due("own of 0", 2, x.own(0, 0));
        Check.due("own of 1", 1, x.own(0, 1));
        Check.due("own of 2", 1, x.own(0, 2));
        Check.due("own of 3", -1, x.own(0, 3));
        Check.due("own of -1", -1, x.own(0, -1));
        Check.due("own in room 1", -1, x.own(1, 0));
        HalfDrop y = Check.withRoom("wall 50 300 300;wall 50 300 300;wall 50 300 300;");
        y.paper(120, 60, 2, 620, 1);
        y.done(0, 0, 40, 0);
        // From 40 on the first and from 10 on the first.
        Check.due("own of 0", 1, y.own(0, 0));
        Check.due("none on 1", 0, y.own(0, 1));
        Check.due("none on 2", 0, y.own(0, 2));
        y.done(0, 0, 50, 0);
        Check.due("at the corner it's on the right one", 0, y.own(0, 0) - 1 + y.own(0, 1) - 1);
    }

    private static void ownTooLong() {
        HalfDrop x = Check.withRoom("wall 100 200 200;wall 100 400 400;");
        x.paper(50, 60, 2, 300, 1);
        x.batch(0, 30);
        x.done(0, 0, 0, 0);
        Check.due("own of the low one", 2, x.own(0, 0));
        Check.due("own of the high one", -1, x.own(0, 1));
        Check.due("shared", -1, x.shared(0, -1));
        Check.due("shared, wall 0", -1, x.shared(0, 0));
    }

    private static void row(HalfDrop x, int seen, int... walls) {
        Check.due("seen", seen, x.shared(0, -1));
        for (int wall = 0; wall < walls.length; wall++) {
            Check.due("batch of wall " + wall, walls[wall], x.shared(0, wall));
        }
    }

    private static void shared() {
        HalfDrop x = fourWalls("");
        Check.due("without batches", -1, x.shared(0, -1));
        x.batch(1, 30);
        Check.due("of another paper", -1, x.shared(0, -1));
        x.batch(0, 7);
        Check.due("of too few", -1, x.shared(0, -1));
        Check.due("of too few, wall 0", -1, x.shared(0, 0));
        x.batch(0, 2);
        // Two rolls a wall: three walls from the one, one from the other.
        row(x, 2, 1, 1, 1, 2);
        x.batch(0, 8);
        row(x, 0, 3, 3, 3, 3);
        HalfDrop y = fourWalls("");
        y.batch(0, 4);
        y.batch(0, 4);
        row(y, 2, 0, 0, 1, 1);
        HalfDrop z = fourWalls("");
        z.batch(0, 3);
        z.batch(0, 3);
        z.batch(0, 5);
        row(z, 3, 0, 1, 2, 2);
        // Another room takes nothing from them.
        Check.addRoom(z, "wall 100 300 300;");
        z.done(1, 0, 0, 0);
        Check.due("another room", 0, z.shared(1, 0));
        row(z, 3, 0, 1, 2, 2);
        HalfDrop w = fourWalls("");
        w.batch(0, 8);
        row(w, 0, 0, 0, 0, 0);
    }

    private static void doorsHide() {
        // A door left of the corner, one right of it, and a window that hides nothing.
        HalfDrop x = fourWalls("door 1 90 100 100;door 0 0 10 100;window 2 90 100 50 100;");
        x.batch(0, 4);
        x.batch(0, 4);
        row(x, 0, 0, 0, 1, 1);
        HalfDrop y = fourWalls("door 1 90 99 100;door 0 1 10 100;");
        y.batch(0, 4);
        y.batch(0, 4);
        row(y, 2, 0, 0, 1, 1);
        HalfDrop z = fourWalls("door 1 0 10 100;door 2 90 100 100;");
        z.batch(0, 4);
        z.batch(0, 4);
        row(z, 0, 0, 1, 1, 0);
        HalfDrop w = fourWalls("door 1 0 10 100;door 3 0 10 100;");
        w.batch(0, 4);
        w.batch(0, 4);
        row(w, 0, 0, 1, 1, 0);
        HalfDrop last = fourWalls("door 3 90 100 100;door 1 90 100 100;");
        last.batch(0, 4);
        last.batch(0, 4);
        row(last, 0, 0, 0, 1, 1);
    }

    private static void oneWall() {
        HalfDrop x = Check.withRoom("wall 100 300 300;");
        x.paper(50, 60, 2, 400, 1);
        x.batch(0, 1);
        x.batch(0, 2);
        x.done(0, 0, 0, 0);
        row(x, 0, 1);
        // Two walls have two corners.
        HalfDrop y = Check.withRoom("wall 100 300 300;wall 100 300 300;");
        y.paper(50, 60, 2, 400, 1);
        y.batch(0, 2);
        y.batch(0, 2);
        y.done(0, 0, 0, 0);
        row(y, 2, 0, 1);
    }

    private static void wallsWithoutRolls() {
        // All strips begin on the first wall; the second takes a batch like it.
        HalfDrop x = Check.withRoom("wall 50 300 300;wall 50 300 300;");
        x.paper(120, 60, 2, 400, 1);
        x.paper(120, 60, 0, 400, 1);
        x.batch(1, 30);
        x.batch(0, 1);
        x.batch(0, 1);
        x.done(0, 0, 0, 0);
        row(x, 0, 1, 1);
    }

    private static void refused() {
        HalfDrop x = fourWalls("");
        x.batch(0, 30);
        Check.due("wall 4", -1, x.shared(0, 4));
        Check.due("wall -2", -1, x.shared(0, -2));
        Check.due("room 1", -1, x.shared(1, -1));
        Check.due("room -1", -1, x.shared(-1, -1));
        Check.addRoom(x, "wall 100 300 300;");
        Check.due("a room that isn't done", -1, x.shared(1, -1));
        Check.due("a room that isn't done, wall 0", -1, x.shared(1, 0));
    }
}
