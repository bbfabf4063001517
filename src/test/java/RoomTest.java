/** Promises 6 to 9 and 31: of, height, paper, trim, count. */
public final class RoomTest {
    public static void main(String[] args) {
        ofRoom();
        ofDoneRoom();
        heights();
        papers();
        trims();
        counts();
        Check.finish();
    }

    private static void ofRoom() {
        HalfDrop x = Check.withRoom("wall 100 300 200;wall 60 150 350;door 0 0 10 60;window 1 0 10 50 60;door 1 0 60 60;stand 0 0 0;stand 1 60 7;");
        Check.due("walls", 2, x.of(0, 0));
        Check.due("openings", 3, x.of(0, 1));
        Check.due("round", 160, x.of(0, 2));
        Check.due("stands", 2, x.of(0, 3));
        for (int what = 4; what < 10; what++) {
            Check.due("of a room that isn't done, " + what, -1, x.of(0, what));
        }
        Check.due("of(0, 10)", -1, x.of(0, 10));
        Check.due("of(0, -1)", -1, x.of(0, -1));
        Check.due("of(0, least)", -1, x.of(0, Integer.MIN_VALUE));
        Check.due("of(1, 0)", -1, x.of(1, 0));
        Check.due("of(-1, 0)", -1, x.of(-1, 0));
        Check.due("of(6, 0)", -1, x.of(6, 0));
        Check.addRoom(x, "wall 50 100 100;");
        Check.due("walls of the second", 1, x.of(1, 0));
        Check.due("openings of the second", 0, x.of(1, 1));
        Check.due("round of the second", 50, x.of(1, 2));
        Check.due("stands of the second", 0, x.of(1, 3));
    }

    private static void ofDoneRoom() {
        HalfDrop x = Check.withRoom("wall 100 200 200;window 0 0 40 50 60;");
        x.paper(50, 60, 0, 1000, 1);
        x.paper(40, 60, 0, 1000, 1);
        x.done(0, 1, 0, 7);
        Check.due("paper", 1, x.of(0, 4));
        Check.due("start", 0, x.of(0, 5));
        Check.due("base", 7, x.of(0, 6));
        Check.due("strips", 3, x.of(0, 7));
        Check.due("pieces", 4, x.of(0, 8));
        Check.due("hung", 0, x.of(0, 9));
        Check.due("others", -1, x.of(0, 10));
        x.hang(0, 2);
        Check.due("hung then", 2, x.of(0, 9));
        x.done(0, 0, 99, 0);
        Check.due("paper anew", 0, x.of(0, 4));
        Check.due("start anew", 99, x.of(0, 5));
        Check.due("base anew", 0, x.of(0, 6));
        Check.due("strips anew", 2, x.of(0, 7));
        Check.due("pieces anew", 2, x.of(0, 8));
        Check.due("hung anew", 0, x.of(0, 9));
    }

    private static void heights() {
        HalfDrop x = Check.withRoom("wall 100 300 200;wall 60 150 350;wall 600 400 399;");
        int[][] due = {
            {0, 300}, {1, 299}, {99, 201}, {100, 150}, {101, 153}, {150, 316}, {159, 346},
            // falling by less than 1 is floored, not cut
            {160, 400}, {161, 399}, {759, 399},
            {-1, -1}, {760, -1}, {Integer.MIN_VALUE, -1}, {Integer.MAX_VALUE, -1}};
        for (int[] row : due) {
            Check.due("height(0, " + row[0] + ")", row[1], x.height(0, row[0]));
        }
        Check.due("height(1, 0)", -1, x.height(1, 0));
        Check.due("height(-1, 0)", -1, x.height(-1, 0));
    }

    private static void papers() {
        HalfDrop x = new HalfDrop();
        int[][] wrong = {
            {19, 60, 0, 1000, 1}, {121, 60, 0, 1000, 1}, {50, 9, 0, 1000, 1}, {50, 121, 0, 1000, 1},
            {50, 60, -1, 1000, 1}, {50, 60, 3, 1000, 1}, {50, 60, 0, 299, 1}, {50, 60, 0, 2001, 1},
            {50, 60, 0, 1000, 0}, {50, 60, 0, 1000, 61}, {50, 60, 0, 1000, 60001}, {50, 60, 0, 1000, 59000},
            {50, 60, 0, 1000, -1}, {50, 60, 0, 1000, -999}, {50, 60, 0, 1000, -1001}, {50, 60, 2, 1000, 0},
            {50, 60, 0, 1000, Integer.MIN_VALUE}, {50, 60, 0, 1000, Integer.MAX_VALUE}, {Integer.MIN_VALUE, 60, 0, 1000, 1}};
        for (int[] p : wrong) {
            Check.due("a paper that can't be", -1, x.paper(p[0], p[1], p[2], p[3], p[4]));
        }
        Check.due("papers", 0, x.count(1));
        Check.due("the least", 0, x.paper(20, 10, 0, 300, 1));
        Check.due("the greatest", 1, x.paper(120, 120, 2, 2000, 119120));
        Check.due("a third", 2, x.paper(50, 60, 1, 1000, 59060));
        Check.due("one that can't be", -1, x.paper(50, 60, 1, 1000, 0));
        Check.due("a fourth", 3, x.paper(50, 60, 1, 1000, 10020));
        Check.due("a fifth", -1, x.paper(50, 60, 1, 1000, 10020));
        Check.due("papers", 4, x.count(1));
    }

    private static void trims() {
        HalfDrop x = Check.withRoom("wall 100 200 200;");
        x.paper(50, 60, 0, 1000, 1);
        x.done(0, 0, 0, 0);
        Check.due("long with 5", 210, x.piece(0, 0, 3));
        Check.due("trim(-1)", false, x.trim(-1));
        Check.due("trim(21)", false, x.trim(21));
        Check.due("trim stays", 5, x.count(2));
        Check.due("trim(20)", true, x.trim(20));
        Check.due("long with 20", 240, x.piece(0, 0, 3));
        Check.due("phase with 20", 40, x.piece(0, 0, 4));
        Check.due("trim(0)", true, x.trim(0));
        Check.due("long with 0", 200, x.piece(0, 0, 3));
        Check.due("phase with 0", 0, x.piece(0, 0, 4));
        Check.due("trim", 0, x.count(2));
    }

    private static void counts() {
        HalfDrop x = Check.withRoom("wall 100 200 200;");
        Check.addRoom(x, "wall 100 200 200;");
        x.paper(50, 60, 0, 1000, 1);
        x.trim(9);
        x.batch(0, 3);
        x.batch(0, 3);
        x.batch(0, 3);
        x.keep(0, 10, 0);
        x.keep(0, 10, 0);
        x.keep(0, 10, 0);
        x.keep(0, 10, 0);
        Check.feed(x, "wall 60");
        int[] due = {2, 1, 9, 3, 4, 7};
        for (int what = 0; what < 6; what++) {
            Check.due("count(" + what + ")", due[what], x.count(what));
        }
        Check.due("count(6)", -1, x.count(6));
        Check.due("count(-1)", -1, x.count(-1));
        Check.due("count(least)", -1, x.count(Integer.MIN_VALUE));
    }
}
