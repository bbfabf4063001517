/** Promises 24 to 26: keep, mended, border. */
public final class EndTest {
    public static void main(String[] args) {
        keeping();
        onePiece();
        twoPieces();
        free();
        refused();
        borders();
        Check.finish();
    }

    private static void keeping() {
        HalfDrop x = new HalfDrop();
        Check.due("no paper", -1, x.keep(0, 1, 0));
        x.paper(50, 60, 0, 1000, 1);
        x.paper(50, 10, 2, 1000, 1);
        Check.due("length 0", -1, x.keep(0, 0, 0));
        Check.due("length 2001", -1, x.keep(0, 2001, 0));
        Check.due("phase -1", -1, x.keep(0, 1, -1));
        Check.due("phase 60", -1, x.keep(0, 1, 60));
        Check.due("phase 10 of the free one", -1, x.keep(1, 1, 10));
        Check.due("paper 2", -1, x.keep(2, 1, 0));
        Check.due("paper -1", -1, x.keep(-1, 1, 0));
        Check.due("ends", 0, x.count(4));
        for (int n = 0; n < 10; n++) {
            Check.due("end " + n, n, x.keep(n & 1, n == 0 ? 1 : 2000, n == 0 ? 59 : 9));
        }
        Check.due("an 11th", -1, x.keep(0, 1, 0));
        Check.due("ends", 10, x.count(4));
        Check.addRoom(x, "wall 50 400 400;");
        x.done(0, 0, 0, 14);
        Check.due("mended with all ends", 4, x.mended(0, 0));
    }

    private static void onePiece() {
        HalfDrop x = Check.withRoom("wall 100 200 200;");
        x.paper(50, 60, 0, 1000, 1);
        x.paper(50, 60, 0, 1000, 1);
        Check.due("a room that isn't done", -1, x.mended(0, 0));
        x.done(0, 0, 0, 15);
        // 210 long, phase 10
        Check.due("without ends", -1, x.mended(0, 0));
        x.keep(1, 2000, 10);
        Check.due("of another paper", -1, x.mended(0, 0));
        x.keep(0, 219, 0);
        Check.due("10 in and 1 too short", -1, x.mended(0, 0));
        x.keep(0, 268, 11);
        Check.due("59 in and too short", -1, x.mended(0, 0));
        x.keep(0, 210, 10);
        Check.due("just there", 8, x.mended(0, 0));
        Check.due("the other strip too", 8, x.mended(0, 1));
        x.keep(0, 269, 11);
        x.keep(0, 225, 0);
        Check.due("the least", 8, x.mended(0, 0));
        x.trim(10);
        // 220 long, phase 5: of the fourth 55 in, of the fifth 54 in, of the sixth 5 in
        Check.due("with another trim", 32, x.mended(0, 0));
        HalfDrop y = Check.withRoom("wall 100 200 200;");
        y.paper(50, 60, 0, 1000, 1);
        y.done(0, 0, 0, 15);
        y.keep(0, 268, 11);
        y.keep(0, 269, 11);
        Check.due("59 in and just so long", 2, y.mended(0, 0));
        HalfDrop z = Check.withRoom("wall 100 200 200;");
        z.paper(50, 60, 0, 1000, 1);
        z.done(0, 0, 0, 15);
        z.keep(0, 220, 0);
        z.keep(0, 210, 10);
        Check.due("10 in", 1, z.mended(0, 0));
        Check.due("again: nothing is taken", 1, z.mended(0, 0));
        Check.due("ends stay", 2, z.count(4));
    }

    private static void twoPieces() {
        HalfDrop x = Check.withRoom("wall 100 200 200;window 0 0 50 80 150;");
        x.trim(0);
        x.paper(50, 10, 0, 1000, 1);
        x.done(0, 0, 0, 0);
        // 50 long and 80 long, both with phase 0
        x.keep(0, 80, 0);
        Check.due("one end for two pieces", -1, x.mended(0, 0));
        x.keep(0, 49, 0);
        Check.due("the other too short", -1, x.mended(0, 0));
        x.keep(0, 79, 0);
        Check.due("upper from 2, lower from 0", 5, x.mended(0, 0));
        x.keep(0, 200, 0);
        Check.due("the least of them", 5, x.mended(0, 0));
        Check.due("the whole strip", 8, x.mended(0, 1));
        HalfDrop y = Check.withRoom("wall 100 200 200;window 0 0 50 80 150;");
        y.trim(0);
        y.paper(50, 10, 0, 1000, 1);
        y.done(0, 0, 0, 0);
        y.keep(0, 50, 0);
        y.keep(0, 2000, 0);
        y.keep(0, 130, 0);
        Check.due("upper from 0, lower from 1", 3, y.mended(0, 0));
        HalfDrop z = Check.withRoom("wall 100 200 200;window 0 0 50 80 150;");
        z.trim(0);
        z.paper(50, 10, 0, 1000, 1);
        z.done(0, 0, 0, 0);
        z.keep(0, 90, 0);
        z.keep(0, 50, 0);
        z.keep(0, 90, 0);
        Check.due("upper from 1, as the lower needs 0", 3, z.mended(0, 0));
    }

    private static void free() {
        HalfDrop x = Check.withRoom("wall 100 200 200;");
        x.paper(50, 60, 2, 1000, 1);
        x.done(0, 0, 0, 15);
        x.keep(0, 209, 0);
        Check.due("too short", -1, x.mended(0, 0));
        x.keep(0, 210, 33);
        Check.due("just so long", 2, x.mended(0, 0));
    }

    private static void refused() {
        HalfDrop x = Check.withRoom("wall 100 200 200;");
        x.paper(50, 60, 2, 1000, 1);
        x.keep(0, 2000, 0);
        x.done(0, 0, 0, 0);
        Check.due("strip 1", 1, x.mended(0, 1));
        Check.due("strip 2", -1, x.mended(0, 2));
        Check.due("strip -1", -1, x.mended(0, -1));
        Check.due("room 1", -1, x.mended(1, 0));
        Check.due("room -1", -1, x.mended(-1, 0));
    }

    private static void borders() {
        HalfDrop x = Check.withRoom("wall 200 250 250;wall 100 250 240;door 0 50 130 200;window 1 20 80 90 200;door 1 0 20 100;");
        int[][] due = {
            {400, 50, 6}, {400, 299, 2}, {400, 300, 1}, {400, 301, 1}, {200, 100, 3}, {199, 100, 3}, {199, 110, 2}, {199, 220, 1}, {199, 219, 2},
            {100, 55, 4}, {99, 50, 4}, {99, 200, 1}, {0, 199, 2}, {0, 2000, 1},
            {-1, 100, -1}, {401, 100, -1}, {0, 49, -1}, {0, 2001, -1}, {0, 0, -1}, {0, Integer.MIN_VALUE, -1}};
        for (int[] row : due) {
            Check.due("border(0, " + row[0] + ", " + row[1] + ")", row[2], x.border(0, row[0], row[1]));
        }
        Check.due("room 1", -1, x.border(1, 0, 100));
        Check.due("room -1", -1, x.border(-1, 0, 100));
        HalfDrop y = Check.withRoom("wall 50 250 250;door 0 0 50 200;door 0 0 50 200;");
        Check.due("not below 0", 0, y.border(0, 0, 50));
        Check.due("not below 0, less high", 1, y.border(0, 200, 50));
    }
}
