/** Promises 15 and 16: faults, best. */
public final class FaultTest {
    public static void main(String[] args) {
        seams();
        seamsInOpenings();
        narrow();
        figures();
        figuresAtEdges();
        sides();
        figuresAndOpenings();
        freeStands();
        standsOnWalls();
        refused();
        best();
        Check.finish();
    }

    private static HalfDrop done(String room, int drop, int start, int base) {
        return done(room, drop, 10020, start, base);
    }

    /** A room with a paper 50 wide that repeats by 60. */
    private static HalfDrop done(String room, int drop, int figure, int start, int base) {
        HalfDrop x = Check.withRoom(room);
        x.paper(50, 60, drop, 1000, figure);
        x.done(0, 0, start, base);
        return x;
    }

    private static void seams() {
        String even = "wall 300 200 200;";
        String odd = "wall 250 200 300;";
        String rest = "wall 260 200 300;";
        int[][] due = {{0, 0, 0}, {0, 200, 0}, {200, 200, 0}};
        for (int drop = 0; drop < 3; drop++) {
            Check.due("seam, even, " + drop, due[0][drop], done(even, drop, 0, 0).faults(0, 1));
            Check.due("seam, odd, " + drop, due[1][drop], done(odd, drop, 0, 0).faults(0, 1));
            Check.due("seam, rest, " + drop, due[2][drop], done(rest, drop, 0, 0).faults(0, 1));
        }
        Check.due("seam at 125", 250, done(odd, 1, 125, 0).faults(0, 1));
        Check.due("all at 125", 250, done(odd, 1, 125, 0).faults(0, 0));
    }

    private static void seamsInOpenings() {
        String room = "wall 250 200 200;door 0 30 60 150;window 0 60 90 40 100;window 0 80 120 40 50;wall 100 220 220;door 0 230 250 60;";
        int[][] due = {
            {29, 200}, {30, 50}, {45, 50}, {60, 50}, {61, 140}, {90, 140}, {91, 190}, {120, 190}, {121, 200}, {230, 140}, {249, 140},
            // At the corner it lies on the right wall, of which the door is none.
            {250, 220}};
        for (int[] row : due) {
            Check.due("seam at " + row[0], row[1], done(room, 1, row[0], 0).faults(0, 1));
        }
        Check.due("the first opening, a window", 140, done("wall 250 200 200;window 0 10 50 40 100;door 0 50 90 150;", 1, 50, 0).faults(0, 1));
    }

    private static void narrow() {
        Check.due("10 wide", 0, done("wall 260 200 200;", 0, 0, 0).faults(0, 2));
        Check.due("9 wide", 50, done("wall 259 200 200;", 0, 0, 0).faults(0, 2));
        Check.due("9 wide, all", 250, done("wall 259 200 200;", 0, 0, 0).faults(0, 0));
        Check.due("1 wide, free", 50, done("wall 251 200 200;", 2, 0, 0).faults(0, 2));
        Check.due("1 wide, free, all", 50, done("wall 251 200 200;", 2, 0, 0).faults(0, 0));
        Check.due("50 wide", 0, done("wall 250 200 200;", 0, 0, 0).faults(0, 2));
    }

    private static void whole(String what, boolean want, HalfDrop x) {
        Check.due("whole: " + what, want ? 0 : 1, x.faults(0, 3));
        Check.due("all: " + what, want ? 0 : 100, x.faults(0, 0));
    }

    private static final String ROOM = "wall 200 250 250;wall 100 250 250;";

    private static void figures() {
        // 100 above the floor is 150 deep; with base 40 the repeat is at 10 there, where the figure begins; it ends before 30.
        String room = ROOM + "stand 0 20 100;";
        int[] inside = {40, 41, 58, 59};
        int[] outside = {0, 1, 39, 20};
        for (int base : inside) {
            whole("base " + base, true, done(room, 0, 0, base));
        }
        for (int base : outside) {
            whole("base " + base, false, done(room, 0, 0, base));
        }
        // From 50 on, 20 high, it goes on past the repeat up to 10.
        int[] insidePast = {20, 29, 30, 31, 39};
        int[] outsidePast = {19, 40, 0, 59};
        for (int base : insidePast) {
            whole("past, base " + base, true, done(room, 0, 50020, 0, base));
        }
        for (int base : outsidePast) {
            whole("past, base " + base, false, done(room, 0, 50020, 0, base));
        }
        // In an odd strip of the half one the offset is 30 more.
        String second = ROOM + "stand 0 70 100;";
        whole("odd, base 10", true, done(second, 1, 0, 10));
        whole("odd, base 29", true, done(second, 1, 0, 29));
        whole("odd, base 9", false, done(second, 1, 0, 9));
        whole("odd, base 40", false, done(second, 1, 0, 40));
        whole("odd, straight, base 40", true, done(second, 0, 0, 40));
    }

    private static void figuresAtEdges() {
        String top = ROOM + "stand 0 20 245;";
        whole("top at 0", true, done(top, 0, 0, 10));
        whole("top above 0", false, done(top, 0, 0, 11));
        whole("its first row", true, done(top, 0, 0, 5));
        whole("above its first row", false, done(top, 0, 0, 4));
        String bottom = ROOM + "stand 0 20 3;";
        whole("bottom at the floor", true, done(bottom, 0, 0, 20));
        whole("bottom below the floor", false, done(bottom, 0, 0, 19));
        whole("its last row", true, done(bottom, 0, 0, 22));
        whole("below its last row", false, done(bottom, 0, 0, 23));
        String edge = ROOM + "stand 0 20 250;";
        whole("at the top, figure from there", true, done(edge, 0, 0, 10));
        whole("at the top, figure from above", false, done(edge, 0, 0, 11));
        // Above the top nothing is whole, though a figure would lie there.
        String above = ROOM + "stand 0 20 251;";
        for (int base = 0; base < 60; base++) {
            whole("above the top, base " + base, false, done(above, 0, 0, base));
        }
    }

    private static void sides() {
        String room = ROOM + "stand 0 105 100;";
        int[][] due = {{100, 1}, {101, 0}, {105, 0}, {60, 1}, {59, 0}, {106, 0}, {50, 1}, {110, 1}, {0, 1}, {150, 1}, {151, 0}};
        for (int[] row : due) {
            whole("from " + row[0], row[1] == 1, done(room, 0, row[0], 40));
        }
        // The last strip, 10 wide, holds just what is in its middle.
        String odd = "wall 260 250 250;stand 0 255 100;";
        Check.due("in the middle of 10", 0, done(odd, 0, 0, 40).faults(0, 3));
        Check.due("4 from the corner's side", 1, done("wall 260 250 250;stand 0 256 100;", 0, 0, 40).faults(0, 3));
        Check.due("in the middle of 10 from 5 on", 1, done("wall 260 250 250;stand 0 4 100;", 0, 5, 40).faults(0, 3));
    }

    private static void figuresAndOpenings() {
        // With base 40 the figure goes from 80 to 100 above the floor.
        String[] leaves = {"window 0 10 30 100 150;", "window 0 10 30 50 80;", "door 0 10 30 80;", "window 0 21 40 50 150;", "door 0 0 19 200;",
            "window 1 10 30 50 150;"};
        String[] breaks = {"window 0 10 30 99 150;", "window 0 10 30 50 81;", "door 0 10 30 81;", "window 0 20 40 50 150;", "door 0 0 20 200;",
            "window 0 10 30 85 90;", "door 1 0 10 50;window 0 10 30 85 90;"};
        for (String opening : leaves) {
            whole(opening, true, done(ROOM + opening + "stand 0 20 100;", 0, 0, 40));
        }
        for (String opening : breaks) {
            whole(opening, false, done(ROOM + opening + "stand 0 20 100;", 0, 0, 40));
        }
    }

    private static void freeStands() {
        String[] leaves = {"", "window 0 10 30 101 150;", "window 0 10 30 50 99;", "door 0 10 30 99;", "door 0 21 30 200;"};
        String[] breaks = {"window 0 10 30 100 150;", "window 0 10 30 50 100;", "door 0 10 30 100;", "door 0 20 30 200;"};
        for (String opening : leaves) {
            whole("free: " + opening, true, done(ROOM + opening + "stand 0 20 100;", 2, 0, 0));
        }
        for (String opening : breaks) {
            whole("free: " + opening, false, done(ROOM + opening + "stand 0 20 100;", 2, 0, 0));
        }
        whole("free: at the floor in a door", false, done(ROOM + "door 0 10 30 100;stand 0 20 0;", 2, 0, 0));
        whole("free: above the top", true, done(ROOM + "stand 0 20 400;", 2, 0, 0));
        whole("free: 5 from the side", true, done(ROOM + "stand 0 20 100;", 2, 15, 0));
        whole("free: 4 from the side", false, done(ROOM + "stand 0 20 100;", 2, 16, 0));
    }

    private static void standsOnWalls() {
        // At the end of a wall it stands on the right one: 150 high there, so 50 deep, and out of the left one's door.
        String room = "wall 100 250 250;wall 200 150 150;door 0 50 100 200;stand 0 100 100;";
        whole("at the corner", true, done(room, 0, 80, 20));
        whole("at the corner, as if left", false, done(room, 0, 80, 40));
        whole("at the corner, a door right of it", false, done(room + "door 1 0 10 100;", 0, 80, 20));
        // At the end of the last wall it stands on the first.
        String last = "wall 100 150 150;wall 200 250 250;stand 1 200 100;";
        whole("at the last corner", true, done(last, 0, 280, 20));
        whole("at the last corner, as if left", false, done(last, 0, 280, 40));
        HalfDrop x = done(ROOM + "stand 0 20 100;stand 0 50 100;stand 0 80 100;stand 0 101 100;", 0, 0, 40);
        Check.due("bits of stands", 2 + 8, x.faults(0, 3));
        Check.due("100 for each", 200, x.faults(0, 0));
    }

    private static void refused() {
        HalfDrop x = Check.withRoom(ROOM);
        x.paper(50, 60, 0, 1000, 1);
        Check.due("faults of a room that isn't done", -1, x.faults(0, 0));
        x.done(0, 0, 0, 0);
        Check.due("faults(0, 4)", -1, x.faults(0, 4));
        Check.due("faults(0, -1)", -1, x.faults(0, -1));
        Check.due("faults(1, 0)", -1, x.faults(1, 0));
        Check.due("best, step 0", -1, x.best(0, 0, 0, 0));
        Check.due("best, step 51", -1, x.best(0, 0, 51, 0));
        Check.due("best, step -1", -1, x.best(0, 0, -1, 0));
        Check.due("best, what 3", -1, x.best(0, 0, 1, 3));
        Check.due("best, what -1", -1, x.best(0, 0, 1, -1));
        Check.due("best, room 1", -1, x.best(1, 0, 1, 0));
        Check.due("best, paper 1", -1, x.best(0, 1, 1, 0));
        Check.due("best, step 50", 0, x.best(0, 0, 50, 2));
    }

    /** BEST is what all starts and bases, done one after the other, have as their least. */
    private static void best() {
        String[] rooms = {
            ROOM + "stand 0 20 100;stand 0 120 90;stand 1 50 77;",
            "wall 170 250 180;wall 83 200 230;door 0 40 90 170;window 1 10 60 50 150;stand 0 120 60;stand 1 80 199;stand 0 20 0;stand 0 0 99;",
            "wall 50 100 100;stand 0 25 50;"};
        int[][] papers = {{50, 60, 0, 1000, 10020}, {53, 47, 1, 1000, 40020}, {31, 20, 2, 1000, 1}, {120, 33, 1, 1000, 7}};
        int[] steps = {1, 7, 50};
        for (String room : rooms) {
            HalfDrop x = Check.withRoom(room);
            for (int[] p : papers) {
                x.paper(p[0], p[1], p[2], p[3], p[4]);
            }
            for (int paper = 0; paper < papers.length; paper++) {
                for (int step : steps) {
                    bestByAll(x, paper, papers[paper][1], step);
                }
            }
        }
    }

    private static void bestByAll(HalfDrop x, int paper, int repeat, int step) {
        int[] least = {-1, -1, Integer.MAX_VALUE};
        for (int start = 0; start < x.of(0, 2); start += step) {
            for (int base = 0; base < repeat; base += step) {
                x.done(0, paper, start, base);
                int faults = x.faults(0, 0);
                if (faults < least[2]) {
                    least = new int[] {start, base, faults};
                }
            }
        }
        for (int what = 0; what < 3; what++) {
            Check.due("best(0, " + paper + ", " + step + ", " + what + ")", least[what], x.best(0, paper, step, what));
        }
    }
}
