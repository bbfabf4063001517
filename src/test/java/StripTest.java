/** Promises 10 to 12: done, strip, piece. */
public final class StripTest {
    public static void main(String[] args) {
        doing();
        strips();
        oneStrip();
        offsets();
        openings();
        corners();
        pieces();
        Check.finish();
    }

    private static void doing() {
        HalfDrop x = Check.withRoom("wall 100 200 200;");
        Check.due("done without a paper", -1, x.done(0, 0, 0, 0));
        x.paper(50, 60, 0, 1000, 1);
        x.paper(33, 10, 2, 1000, 1);
        Check.due("strips", 2, x.done(0, 0, 99, 59));
        Check.due("room 1", -1, x.done(1, 0, 0, 0));
        Check.due("room -1", -1, x.done(-1, 0, 0, 0));
        Check.due("paper 2", -1, x.done(0, 2, 0, 0));
        Check.due("paper -1", -1, x.done(0, -1, 0, 0));
        Check.due("start -1", -1, x.done(0, 0, -1, 0));
        Check.due("start 100", -1, x.done(0, 0, 100, 0));
        Check.due("base -1", -1, x.done(0, 0, 0, -1));
        Check.due("base 60", -1, x.done(0, 0, 0, 60));
        Check.due("base 10 of the free one", -1, x.done(0, 1, 0, 10));
        Check.due("start after what was refused", 99, x.of(0, 5));
        Check.due("base after what was refused", 59, x.of(0, 6));
        Check.due("strips of 33", 4, x.done(0, 1, 0, 9));
        Check.due("strip of a room that isn't", -1, x.strip(1, 0, 0));
    }

    private static void strips() {
        HalfDrop x = Check.withRoom("wall 100 300 200;wall 60 150 350;");
        x.paper(50, 60, 1, 1000, 1);
        Check.due("strip of a room that isn't done", -1, x.strip(0, 0, 0));
        Check.due("piece of a room that isn't done", -1, x.piece(0, 0, 0));
        Check.due("strips from 0", 4, x.done(0, 0, 0, 40));
        // from, width, tall, offset, pieces, first piece
        rows(x, new int[][] {{0, 50, 300, 40, 1, 0}, {50, 50, 250, 10, 1, 1}, {100, 50, 316, 40, 1, 2}, {150, 10, 350, 10, 1, 3}});
        Check.due("strips from 80", 4, x.done(0, 0, 80, 0));
        rows(x, new int[][] {{80, 50, 250, 0, 1, 0}, {130, 50, 350, 30, 1, 1}, {20, 50, 280, 0, 1, 2}, {70, 10, 230, 30, 1, 3}});
        Check.due("strip 4", -1, x.strip(0, 4, 0));
        Check.due("strip -1", -1, x.strip(0, -1, 0));
        Check.due("what 6", -1, x.strip(0, 0, 6));
        Check.due("what -1", -1, x.strip(0, 0, -1));
    }

    private static void rows(HalfDrop x, int[][] due) {
        for (int strip = 0; strip < due.length; strip++) {
            for (int what = 0; what < due[strip].length; what++) {
                Check.due("strip(0, " + strip + ", " + what + ")", due[strip][what], x.strip(0, strip, what));
            }
        }
    }

    /** A strip as wide as the whole round counts all ends of walls, but at its sides only the one on which it lies. */
    private static void oneStrip() {
        HalfDrop x = Check.withRoom("wall 50 100 120;wall 50 180 140;");
        x.paper(120, 60, 0, 1000, 1);
        Check.due("strips", 1, x.done(0, 0, 0, 0));
        rows(x, new int[][] {{0, 100, 180, 0, 1, 0}});
        x.done(0, 0, 50, 0);
        rows(x, new int[][] {{50, 100, 180, 0, 1, 0}});
        HalfDrop y = Check.withRoom("wall 60 100 300;");
        y.paper(120, 60, 0, 1000, 1);
        y.done(0, 0, 0, 0);
        rows(y, new int[][] {{0, 60, 300, 0, 1, 0}});
        y.done(0, 0, 6, 0);
        rows(y, new int[][] {{6, 60, 300, 0, 1, 0}});
        // 20 wide from 50 on past the corner
        y.paper(20, 60, 0, 1000, 1);
        y.done(0, 1, 50, 0);
        rows(y, new int[][] {{50, 20, 300, 0, 1, 0}, {10, 20, 200, 0, 1, 1}, {30, 20, 266, 0, 1, 2}});
    }

    private static void offsets() {
        HalfDrop x = Check.withRoom("wall 100 200 200;");
        x.paper(20, 53, 1, 1000, 1);
        x.paper(20, 53, 0, 1000, 1);
        x.paper(20, 53, 2, 1000, 1);
        int[][] due = {{30, 3}, {30, 30}, {30, 30}};
        for (int paper = 0; paper < 3; paper++) {
            x.done(0, paper, 0, 30);
            for (int strip = 0; strip < 5; strip++) {
                Check.due("offset", due[paper][strip & 1], x.strip(0, strip, 3));
            }
        }
    }

    private static void openings() {
        HalfDrop x = Check.withRoom("wall 100 200 200;door 0 0 50 100;");
        x.paper(50, 60, 0, 1000, 1);
        x.paper(20, 60, 0, 1000, 1);
        x.done(0, 0, 0, 0);
        cuts(x, new int[][] {{0, 0, 100}, {1, 0, 200}});
        x.done(0, 0, 1, 0);
        cuts(x, new int[][] {{0, 0, 200}, {1, 0, 200}});
        x.done(0, 1, 90, 0);
        // 90-10, 10-30, 30-50, 50-70, 70-90
        cuts(x, new int[][] {{0, 0, 200}, {1, 0, 100}, {2, 0, 100}, {3, 0, 200}, {4, 0, 200}});
        HalfDrop y = Check.withRoom("wall 100 200 250;window 0 50 100 60 150;");
        y.paper(50, 60, 0, 1000, 1);
        y.done(0, 0, 0, 0);
        cuts(y, new int[][] {{0, 0, 225}, {1, 0, 100}, {1, 190, 250}});
        Check.due("pieces of the window's strip", 2, y.strip(0, 1, 4));
        Check.due("its first piece", 1, y.strip(0, 1, 5));
        HalfDrop z = Check.withRoom("wall 100 200 200;window 0 0 100 50 100;door 0 0 100 150;");
        z.paper(50, 60, 0, 1000, 1);
        z.done(0, 0, 0, 0);
        cuts(z, new int[][] {{0, 0, 100}, {0, 150, 200}, {1, 0, 100}, {1, 150, 200}});
        HalfDrop w = Check.withRoom("wall 100 200 200;door 0 0 60 50;door 0 40 100 60;");
        w.paper(20, 60, 0, 1000, 1);
        w.done(0, 0, 30, 0);
        // 30-50 in the first, 50-70 in the second, 70-90 in the second, 90-10 in none, 10-30 in the first
        cuts(w, new int[][] {{0, 0, 150}, {1, 0, 140}, {2, 0, 140}, {3, 0, 200}, {4, 0, 150}});
    }

    private static void cuts(HalfDrop x, int[][] due) {
        Check.due("pieces", due.length, x.of(0, 8));
        for (int piece = 0; piece < due.length; piece++) {
            for (int what = 0; what < 3; what++) {
                Check.due("piece(0, " + piece + ", " + what + ")", due[piece][what], x.piece(0, piece, what));
            }
        }
    }

    private static void corners() {
        // Two doors that meet in a corner are not one opening; a door that ends there holds the strip left of it alone.
        HalfDrop x = Check.withRoom("wall 100 200 200;wall 100 200 200;door 0 60 100 100;door 1 0 30 110;");
        x.paper(20, 60, 0, 1000, 1);
        x.done(0, 0, 80, 0);
        Check.due("left of the corner", 100, x.piece(0, 0, 2));
        Check.due("right of the corner", 90, x.piece(0, 1, 2));
        x.done(0, 0, 90, 0);
        Check.due("over the corner", 200, x.piece(0, 0, 2));
        // The last wall's end is the first one's beginning.
        HalfDrop y = Check.withRoom("wall 100 200 200;wall 100 200 200;door 1 80 100 100;door 0 0 20 110;");
        y.paper(20, 60, 0, 1000, 1);
        y.done(0, 0, 180, 0);
        Check.due("left of the first corner", 100, y.piece(0, 0, 2));
        Check.due("right of the first corner", 90, y.piece(0, 1, 2));
        // Both sides lie within the door, though the strip goes round.
        HalfDrop z = Check.withRoom("wall 130 200 200;door 0 0 50 100;");
        z.paper(120, 60, 0, 1000, 1);
        z.done(0, 0, 40, 0);
        cuts(z, new int[][] {{0, 0, 100}, {1, 0, 100}});
        z.done(0, 0, 60, 0);
        cuts(z, new int[][] {{0, 0, 200}, {1, 0, 200}});
    }

    private static void pieces() {
        HalfDrop x = Check.withRoom("wall 100 200 250;window 0 50 100 60 150;");
        x.paper(50, 60, 1, 1000, 1);
        x.paper(50, 60, 2, 1000, 1);
        x.done(0, 0, 0, 3);
        // Offset 3: from 0 less 5 is 58; offset 33: 28, and 190 deeper 218, rest 38.
        rowsOfPieces(x, new int[][] {{0, 0, 225, 235, 58}, {1, 0, 100, 110, 28}, {1, 190, 250, 70, 38}});
        x.trim(20);
        rowsOfPieces(x, new int[][] {{0, 0, 225, 265, 43}, {1, 0, 100, 140, 13}, {1, 190, 250, 100, 23}});
        x.done(0, 1, 0, 3);
        rowsOfPieces(x, new int[][] {{0, 0, 225, 265, 0}, {1, 0, 100, 140, 0}, {1, 190, 250, 100, 0}});
        Check.due("piece 3", -1, x.piece(0, 3, 0));
        Check.due("piece -1", -1, x.piece(0, -1, 0));
        Check.due("what 7", -1, x.piece(0, 0, 7));
        Check.due("what -1", -1, x.piece(0, 0, -1));
        Check.due("room 1", -1, x.piece(1, 0, 0));
    }

    private static void rowsOfPieces(HalfDrop x, int[][] due) {
        for (int piece = 0; piece < due.length; piece++) {
            for (int what = 0; what < due[piece].length; what++) {
                Check.due("piece(0, " + piece + ", " + what + ")", due[piece][what], x.piece(0, piece, what));
            }
        }
    }
}
