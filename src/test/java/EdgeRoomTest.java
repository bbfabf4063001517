/** Promises 6 to 9 and 31 at their bounds, sentence by sentence: ROUND, HEIGHT, PAPERS, TRIM, counts. */
public final class EdgeRoomTest {
    private static final int LEAST = Integer.MIN_VALUE;
    private static final int MOST = Integer.MAX_VALUE;

    public static void main(String[] args) {
        ofRooms();
        notDone();
        places();
        heightsAtEnds();
        heightsFloored();
        widthsAndRepeats();
        dropsAndRolls();
        figures();
        howManyPapers();
        trims();
        trimsAndPieces();
        counts();
        Check.finish();
    }

    private static void ofRooms() {
        Check.sentence("Of a ROOM: 0 WALLS, 1 OPENINGS, 2 ROUND, 3 stands;");
        HalfDrop x = Check.withRoom("wall 50 100 100;");
        Check.addRoom(x, "wall 600 400 400;".repeat(8) + "door 0 0 1 50;".repeat(8) + "stand 0 0 0;".repeat(4));
        int[][] due = {{1, 0, 50, 0}, {8, 8, 4800, 4}};
        for (int room = 0; room < 2; room++) {
            for (int what = 0; what < 4; what++) {
                Check.due("of(" + room + ", " + what + ")", due[room][what], x.of(room, what));
            }
        }
        Check.sentence("NONE for others, or if there is none such.");
        int[] others = {-1, 10, 11, LEAST, MOST};
        for (int what : others) {
            Check.due("of(0, " + what + ")", -1, x.of(0, what));
        }
        int[] rooms = {-1, 2, 5, 6, LEAST, MOST};
        for (int room : rooms) {
            Check.due("of(" + room + ", 0)", -1, x.of(room, 0));
        }
    }

    private static void notDone() {
        Check.sentence("(4 .. 9 NONE, if it isn't DONE)");
        HalfDrop x = Check.withRoom("wall 50 100 100;");
        x.paper(20, 10, 0, 300, 1);
        for (int what = 4; what <= 9; what++) {
            Check.due("of(0, " + what + ")", -1, x.of(0, what));
        }
        Check.due("what 3 needs no paper", 0, x.of(0, 3));
        Check.sentence("4 its PAPER, 5 START, 6 BASE, 7 STRIPS, 8 PIECES, 9 how many are HUNG");
        x.done(0, 0, 49, 9);
        int[] due = {0, 49, 9, 3, 3, 0};
        for (int what = 4; what <= 9; what++) {
            Check.due("of(0, " + what + ")", due[what - 4], x.of(0, what));
        }
        Check.due("of(0, 10)", -1, x.of(0, 10));
        x.hang(0, 3);
        Check.due("all of them hung", 3, x.of(0, 9));
        x.done(0, 0, 0, 0);
        int[] anew = {0, 0, 0, 3, 3, 0};
        for (int what = 4; what <= 9; what++) {
            Check.due("done anew, of(0, " + what + ")", anew[what - 4], x.of(0, what));
        }
    }

    private static void places() {
        Check.sentence("The HEIGHT at a place of a ROOM; NONE if there is none such.");
        HalfDrop x = Check.withRoom("wall 50 100 150;wall 60 200 260;");
        int[][] due = {{-1, -1}, {0, 100}, {109, 259}, {110, -1}, {LEAST, -1}, {MOST, -1}};
        for (int[] row : due) {
            Check.due("height(0, " + row[0] + ")", row[1], x.height(0, row[0]));
        }
        Check.due("height(-1, 0)", -1, x.height(-1, 0));
        Check.due("height(1, 0)", -1, x.height(1, 0));
        Check.due("height(6, 0)", -1, x.height(6, 0));
        Check.due("height(most, 0)", -1, x.height(MOST, 0));
    }

    private static void heightsAtEnds() {
        Check.sentence("a place x, 0 .. ROUND - 1, lies on the WALL in which it is (at an end: on the right one), so far from its left end.");
        HalfDrop x = Check.withRoom("wall 50 100 150;wall 60 200 260;wall 50 300 350;");
        int[][] due = {{0, 100}, {1, 101}, {49, 149}, {50, 200}, {51, 201}, {109, 259}, {110, 300}, {111, 301}, {159, 349}, {160, -1}};
        for (int[] row : due) {
            Check.due("height(0, " + row[0] + ")", row[1], x.height(0, row[0]));
        }
        Check.sentence("ROUND is all L together;");
        Check.due("of three", 160, x.of(0, 2));
        Check.due("of the least", 50, Check.withRoom("wall 50 100 100;").of(0, 2));
        Check.due("of the greatest", 4800, Check.withRoom("wall 600 100 100;".repeat(8)).of(0, 2));
        Check.due("the last place", 100, Check.withRoom("wall 600 100 100;".repeat(8)).height(0, 4799));
        Check.due("behind it", -1, Check.withRoom("wall 600 100 100;".repeat(8)).height(0, 4800));
    }

    private static void heightsFloored() {
        Check.sentence("The HEIGHT at a place of a WALL, x from its left end: H + (K - H) * x by L (floor).");
        HalfDrop x = Check.withRoom("wall 50 100 101;wall 50 101 100;wall 600 400 100;wall 600 100 400;wall 51 200 203;");
        int[][] due = {
            // A rise of 1 comes at the end alone, a fall of 1 at once.
            {0, 100}, {1, 100}, {49, 100}, {50, 101}, {51, 100}, {99, 100},
            {100, 400}, {101, 399}, {102, 399}, {103, 398}, {698, 101}, {699, 100},
            {700, 100}, {701, 100}, {702, 101}, {1299, 399},
            {1300, 200}, {1316, 200}, {1317, 201}, {1333, 201}, {1334, 202}, {1350, 202}};
        for (int[] row : due) {
            Check.due("height(0, " + row[0] + ")", row[1], x.height(0, row[0]));
        }
    }

    private static void paper(int want, int... p) {
        HalfDrop x = new HalfDrop();
        String call = "paper(" + p[0] + ", " + p[1] + ", " + p[2] + ", " + p[3] + ", " + p[4] + ")";
        Check.due(call, want, x.paper(p[0], p[1], p[2], p[3], p[4]));
        Check.due("papers behind " + call, want + 1, x.count(1));
    }

    private static void widthsAndRepeats() {
        Check.sentence("WIDTH 20 .. 120, REPEAT 10 .. 120,");
        paper(-1, 19, 60, 0, 1000, 1);
        paper(0, 20, 60, 0, 1000, 1);
        paper(0, 120, 60, 0, 1000, 1);
        paper(-1, 121, 60, 0, 1000, 1);
        paper(-1, -20, 60, 0, 1000, 1);
        paper(-1, LEAST, 60, 0, 1000, 1);
        paper(-1, MOST, 60, 0, 1000, 1);
        paper(-1, 50, 9, 0, 1000, 1);
        paper(0, 50, 10, 0, 1000, 1);
        paper(0, 50, 120, 0, 1000, 1);
        paper(-1, 50, 121, 0, 1000, 1);
        paper(-1, 50, 0, 0, 1000, 1);
        paper(-1, 50, 9, 2, 1000, 1);
        paper(-1, 50, LEAST, 0, 1000, 1);
        paper(-1, 50, MOST, 0, 1000, 1);
    }

    private static void dropsAndRolls() {
        Check.sentence("DROP 0 straight, 1 half, 2 free (no pattern), ROLL 300 .. 2000 long;");
        paper(-1, 50, 60, -1, 1000, 1);
        paper(0, 50, 60, 0, 1000, 1);
        paper(0, 50, 60, 1, 1000, 1);
        paper(0, 50, 60, 2, 1000, 1);
        paper(-1, 50, 60, 3, 1000, 1);
        paper(-1, 50, 60, LEAST, 1000, 1);
        paper(-1, 50, 60, MOST, 1000, 1);
        paper(-1, 50, 60, 0, 299, 1);
        paper(0, 50, 60, 0, 300, 1);
        paper(0, 50, 60, 0, 2000, 1);
        paper(-1, 50, 60, 0, 2001, 1);
        paper(-1, 50, 60, 0, LEAST, 1);
        paper(-1, 50, 60, 0, MOST, 1);
    }

    private static void figures() {
        Check.sentence("a FIGURE from F (0 .. REPEAT - 1) on, G high (1 .. REPEAT).");
        for (int drop = 0; drop < 3; drop++) {
            paper(-1, 50, 60, drop, 1000, 0);
            paper(0, 50, 60, drop, 1000, 1);
            paper(0, 50, 60, drop, 1000, 60);
            paper(-1, 50, 60, drop, 1000, 61);
            paper(-1, 50, 60, drop, 1000, 999);
            paper(-1, 50, 60, drop, 1000, 1000);
            paper(0, 50, 60, drop, 1000, 1001);
            paper(-1, 50, 60, drop, 1000, 59000);
            paper(0, 50, 60, drop, 1000, 59001);
            paper(0, 50, 60, drop, 1000, 59060);
            paper(-1, 50, 60, drop, 1000, 59061);
            paper(-1, 50, 60, drop, 1000, 60001);
        }
        Check.sentence("A PAPER (figure F * 1000 and G): its number; NONE if it can't be, or 4 came.");
        paper(-1, 50, 60, 0, 1000, -1);
        paper(-1, 50, 60, 0, 1000, -999);
        paper(-1, 50, 60, 0, 1000, -1001);
        paper(-1, 50, 60, 0, 1000, LEAST);
        paper(-1, 50, 60, 0, 1000, MOST);
        paper(0, 50, 10, 0, 1000, 9010);
        paper(-1, 50, 10, 0, 1000, 10010);
        paper(-1, 50, 10, 0, 1000, 9011);
        paper(0, 50, 120, 0, 1000, 119120);
        paper(-1, 50, 120, 0, 1000, 120120);
        paper(-1, 50, 120, 0, 1000, 119121);
    }

    private static void howManyPapers() {
        Check.sentence("PAPERS (at most 4, numbers as they come):");
        HalfDrop x = new HalfDrop();
        for (int number = 0; number < 4; number++) {
            Check.due("one that can't be", -1, x.paper(19, 60, 0, 1000, 1));
            Check.due("paper " + number, number, x.paper(50, 60, 0, 1000, 1));
            Check.due("papers", number + 1, x.count(1));
        }
        Check.due("a 5th", -1, x.paper(50, 60, 0, 1000, 1));
        Check.due("papers", 4, x.count(1));
        Check.due("a batch of the 4th", 0, x.batch(3, 1));
        Check.due("a batch of a 5th", -1, x.batch(4, 1));
    }

    private static void trims() {
        Check.sentence("TRIM is 0 .. 20 (5 at first) for all.");
        HalfDrop x = new HalfDrop();
        Check.due("at first", 5, x.count(2));
        Check.sentence("TRIM: true; false if it can't be.");
        int[][] due = {{-1, 0}, {0, 1}, {20, 1}, {21, 0}, {LEAST, 0}, {MOST, 0}, {1, 1}, {19, 1}};
        int trim = 5;
        for (int[] row : due) {
            Check.due("trim(" + row[0] + ")", row[1] == 1, x.trim(row[0]));
            trim = row[1] == 1 ? row[0] : trim;
            Check.due("trim then", trim, x.count(2));
        }
    }

    private static void trimsAndPieces() {
        Check.sentence("TRIM is 0 .. 20 (5 at first) for all.");
        HalfDrop x = Check.withRoom("wall 50 100 100;");
        Check.addRoom(x, "wall 50 400 400;");
        x.paper(50, 60, 0, 1000, 1);
        x.paper(50, 60, 2, 1000, 1);
        x.done(0, 0, 0, 0);
        x.done(1, 1, 0, 0);
        int[] trims = {5, 0, 20, 21};
        int[] longer = {10, 0, 40, 40};
        for (int i = 0; i < trims.length; i++) {
            x.trim(trims[i]);
            Check.due("of a room that was done ahead", 100 + longer[i], x.piece(0, 0, 3));
            Check.due("of another one", 400 + longer[i], x.piece(1, 0, 3));
        }
    }

    private static void counts() {
        Check.sentence("0 ROOMS, 1 PAPERS, 2 TRIM, 3 BATCHES, 4 ENDS, 5 bytes of the text. NONE for others.");
        HalfDrop x = new HalfDrop();
        row(x, 0, 0, 5, 0, 0, 0);
        for (int room = 0; room < 6; room++) {
            Check.addRoom(x, "wall 50 100 100;");
        }
        for (int paper = 0; paper < 4; paper++) {
            x.paper(50, 60, 0, 1000, 1);
            x.batch(0, 1);
        }
        for (int end = 0; end < 10; end++) {
            x.keep(0, 1, 0);
        }
        x.trim(20);
        Check.feed(x, " ".repeat(400));
        row(x, 6, 4, 20, 4, 10, 400);
        int[] others = {-1, 6, 7, LEAST, MOST};
        for (int what : others) {
            Check.due("count(" + what + ")", -1, x.count(what));
        }
    }

    private static void row(HalfDrop x, int... due) {
        for (int what = 0; what < due.length; what++) {
            Check.due("count(" + what + ")", due[what], x.count(what));
        }
    }
}
