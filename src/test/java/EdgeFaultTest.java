/** Promises 15 and 16 at their bounds, sentence by sentence: FAULTS, WHOLE stands, BEST. */
public final class EdgeFaultTest {
    private static final int LEAST = Integer.MIN_VALUE;
    private static final int MOST = Integer.MAX_VALUE;
    private static final int ALL_OVER = 60;
    private static final String FLAT = "wall 200 250 250;";

    public static void main(String[] args) {
        badSeams();
        seamsAtOpenings();
        seamsAtCorners();
        firstOpeningsAtSeams();
        narrowStrips();
        hundredEach();
        placesOfStands();
        sidesOfStrips();
        sidesOfTheLastStrip();
        atLeastNought();
        figuresOver();
        whollyBetween();
        openingsAtPlaces();
        fullAndEmptyOpenings();
        openingsAtHeights();
        freeStands();
        otherFaults();
        bestStarts();
        bestOfNarrow();
        bestBases();
        likeOnes();
        otherBests();
        Check.finish();
    }

    /** A room done with a paper 50 wide that repeats by 60. */
    private static HalfDrop done(String room, int drop, int figure, int start, int base) {
        HalfDrop x = Check.withRoom(room);
        x.paper(50, 60, drop, 1000, figure);
        x.done(0, 0, start, base);
        return x;
    }

    private static void badSeams() {
        Check.sentence("FAULTS of a START and BASE: the last seam, at START: it is bad, if ROUND isn't so many WIDTHS, or, for half, if STRIPS are odd in number (never, if free);");
        // round, then the seam with a straight, a half and a free paper
        int[][] due = {{50, 0, 250, 0}, {51, 250, 250, 0}, {99, 250, 250, 0}, {100, 0, 0, 0}, {101, 250, 250, 0}, {149, 250, 250, 0}, {150, 0, 250, 0},
            {151, 250, 250, 0}, {199, 250, 250, 0}, {200, 0, 0, 0}, {201, 250, 250, 0}, {600, 0, 0, 0}, {550, 0, 250, 0}};
        for (int[] row : due) {
            for (int drop = 0; drop < 3; drop++) {
                HalfDrop x = done("wall " + row[0] + " 250 250;", drop, 1, 0, 0);
                Check.due("seam of " + row[0] + ", drop " + drop, row[drop + 1], x.faults(0, 1));
            }
        }
        HalfDrop wide = Check.withRoom("wall 60 250 250;");
        wide.paper(120, 60, 0, 1000, 1);
        wide.paper(60, 60, 0, 1000, 1);
        wide.done(0, 0, 0, 0);
        Check.due("one strip that isn't a width", 250, wide.faults(0, 1));
        wide.done(0, 1, 0, 0);
        Check.due("one strip that is", 0, wide.faults(0, 1));
    }

    private static void seam(String room, int start, int want) {
        Check.due("seam at " + start + " in " + room, want, done(room, 0, 1, start, 0).faults(0, 1));
    }

    private static void seamsAtOpenings() {
        Check.sentence("less H of the first door, or less D - C of the first window, within (or at the ends of) which it lies;");
        String door = "wall 210 250 250;door 0 30 60 150;";
        int[][] due = {{29, 250}, {30, 100}, {31, 100}, {59, 100}, {60, 100}, {61, 250}};
        for (int[] row : due) {
            seam(door, row[0], row[1]);
        }
        String window = "wall 210 250 250;window 0 30 60 40 150;";
        int[][] dueOfWindow = {{29, 250}, {30, 140}, {31, 140}, {59, 140}, {60, 140}, {61, 250}};
        for (int[] row : dueOfWindow) {
            seam(window, row[0], row[1]);
        }
        seam("wall 210 100 100;door 0 0 210 99;", 7, 1);
        seam("wall 210 100 100;window 0 0 210 1 99;", 7, 2);
        seam("wall 210 400 400;window 0 0 210 300 301;", 7, 399);
    }

    private static void seamsAtCorners() {
        Check.sentence("then what one sees of it there: the HEIGHT at START,");
        String walls = "wall 110 250 200;wall 100 300 310;";
        int[][] due = {{0, 250}, {1, 249}, {109, 200}, {110, 300}, {111, 300}, {120, 301}, {209, 309}};
        for (int[] row : due) {
            seam(walls, row[0], row[1]);
        }
        // It lies on the right wall, at the end of whose doors alone it is.
        seam(walls + "door 0 50 110 60;", 109, 140);
        seam(walls + "door 0 50 110 60;", 110, 300);
        seam(walls + "door 1 0 50 60;", 110, 240);
        seam(walls + "door 1 0 50 60;", 109, 200);
        seam(walls + "door 1 50 100 60;", 209, 249);
        seam(walls + "door 1 50 100 60;", 0, 250);
        seam(walls + "door 0 0 50 60;", 0, 190);
    }

    private static void firstOpeningsAtSeams() {
        Check.sentence("less H of the first door, or less D - C of the first window,");
        String room = "wall 210 250 250;";
        seam(room + "door 0 30 60 150;door 0 60 90 160;", 60, 100);
        seam(room + "door 0 60 90 160;door 0 30 60 150;", 60, 90);
        seam(room + "door 0 60 90 160;door 0 30 60 150;", 59, 100);
        seam(room + "window 0 30 60 100 110;window 0 60 90 100 120;", 60, 240);
        seam(room + "window 0 60 90 100 120;window 0 30 60 100 110;", 60, 230);
    }

    private static void narrowStrips() {
        Check.sentence("50, if the last STRIP is narrower than 10;");
        int[][] due = {{200, 0}, {201, 50}, {209, 50}, {210, 0}, {249, 0}, {250, 0}, {251, 50}, {50, 0}, {59, 50}, {60, 0}};
        for (int[] row : due) {
            for (int drop = 0; drop < 3; drop++) {
                for (int start = 0; start < row[0]; start += 49) {
                    Check.due("narrow of " + row[0], row[1], done("wall " + row[0] + " 250 250;", drop, 1, start, 0).faults(0, 2));
                }
            }
        }
        Check.due("with the seam, all", 300, done("wall 209 250 250;", 0, 1, 0, 0).faults(0, 0));
        Check.due("without it, all", 50, done("wall 209 250 250;", 2, 1, 0, 0).faults(0, 0));
    }

    private static void hundredEach() {
        Check.sentence("100 for each stand that isn't WHOLE.");
        String whole = "stand 0 20 100;";
        String broken = "stand 0 50 100;";
        for (int bits = 0; bits < 16; bits++) {
            StringBuilder room = new StringBuilder(FLAT);
            for (int stand = 0; stand < 4; stand++) {
                room.append((bits >> stand & 1) == 1 ? broken : whole);
            }
            HalfDrop x = done(room.toString(), 0, ALL_OVER, 0, 0);
            Check.due("bits " + bits, bits, x.faults(0, 3));
            Check.due("all " + bits, 100 * Integer.bitCount(bits), x.faults(0, 0));
        }
        Check.due("no stands", 0, done(FLAT, 0, ALL_OVER, 0, 0).faults(0, 3));
        Check.due("one stand, broken", 1, done(FLAT + broken, 0, ALL_OVER, 0, 0).faults(0, 3));
        HalfDrop all = done("wall 209 250 250;" + broken + whole + broken, 0, ALL_OVER, 0, 0);
        Check.due("seam, narrow and two stands", 250 + 50 + 200, all.faults(0, 0));
    }

    private static void whole(String room, int drop, int figure, int start, int base, boolean want) {
        HalfDrop x = done(room, drop, figure, start, base);
        Check.due("broken in " + room + " from " + start + " with " + base, want ? 0 : 1, x.faults(0, 3));
    }

    private static void placesOfStands() {
        Check.sentence("A stand is at its place (X = L: on the WALL right of it).");
        // G 1, F 0: whole, if the depth and the base together are so many repeats. 200 - 140 is 60, 250 - 140 is 110.
        String walls = "wall 100 200 200;wall 100 250 250;";
        whole(walls + "stand 0 99 140;", 0, 1, 80, 0, true);
        whole(walls + "stand 0 99 140;", 0, 1, 80, 10, false);
        whole(walls + "stand 0 100 140;", 0, 1, 80, 10, true);
        whole(walls + "stand 0 100 140;", 0, 1, 80, 0, false);
        whole(walls + "stand 1 0 140;", 0, 1, 80, 10, true);
        whole(walls + "stand 1 99 140;", 0, 1, 180, 10, true);
        whole(walls + "stand 1 100 140;", 0, 1, 180, 0, true);
        whole(walls + "stand 1 100 140;", 0, 1, 180, 10, false);
        whole(walls + "stand 0 0 140;", 0, 1, 180, 0, true);
        // One wall is right of itself.
        whole("wall 200 200 250;stand 0 200 140;", 0, 1, 180, 0, true);
        whole("wall 200 200 250;stand 0 200 140;", 0, 1, 180, 10, false);
    }

    private static void sidesOfStrips() {
        Check.sentence("It is WHOLE, if it is 5 or more from both sides of the STRIP in which it lies (at a side: in the right one),");
        int[][] due = {{49, 0}, {50, 0}, {51, 0}, {54, 0}, {55, 1}, {56, 1}, {94, 1}, {95, 1}, {96, 0}, {99, 0}, {100, 0}, {104, 0}, {105, 1}, {0, 0}, {4, 0},
            {5, 1}, {195, 1}, {196, 0}, {199, 0}, {200, 0}};
        for (int[] row : due) {
            for (int drop = 0; drop < 3; drop++) {
                whole(FLAT + "stand 0 " + row[0] + " 100;", drop, ALL_OVER, 0, 0, row[1] == 1);
            }
        }
        // Strips from 180 on: the first goes round to 30.
        int[][] round = {{184, 0}, {185, 1}, {199, 1}, {200, 1}, {0, 1}, {25, 1}, {26, 0}, {30, 0}, {34, 0}, {35, 1}};
        for (int[] row : round) {
            whole(FLAT + "stand 0 " + row[0] + " 100;", 0, ALL_OVER, 180, 0, row[1] == 1);
        }
    }

    private static void sidesOfTheLastStrip() {
        Check.sentence("5 or more from both sides of the STRIP in which it lies (at a side: in the right one)");
        int[][] ten = {{204, 0}, {205, 1}, {206, 0}, {209, 0}, {195, 1}, {196, 0}};
        for (int[] row : ten) {
            whole("wall 210 250 250;stand 0 " + row[0] + " 100;", 0, ALL_OVER, 0, 0, row[1] == 1);
        }
        for (int x = 200; x <= 209; x++) {
            whole("wall 209 250 250;stand 0 " + x + " 100;", 0, ALL_OVER, 0, 0, false);
        }
        // From 100 on the last strip of 210 is 90 .. 100.
        int[][] later = {{94, 0}, {95, 1}, {96, 0}, {85, 1}, {86, 0}, {100, 0}, {105, 1}};
        for (int[] row : later) {
            whole("wall 210 250 250;stand 0 " + row[0] + " 100;", 0, ALL_OVER, 100, 0, row[1] == 1);
        }
        // In odd strips of a half paper the offset is another one: depth 60, F 0 and G 1.
        whole(FLAT + "stand 0 20 190;", 1, 1, 0, 0, true);
        whole(FLAT + "stand 0 70 190;", 1, 1, 0, 0, false);
        whole(FLAT + "stand 0 70 190;", 1, 1, 0, 30, true);
        whole(FLAT + "stand 0 170 190;", 1, 1, 0, 30, true);
        whole(FLAT + "stand 0 120 190;", 1, 1, 0, 30, false);
    }

    private static void atLeastNought() {
        Check.sentence("with DEPTH e, the HEIGHT there less Y, e is 0 at least,");
        whole(FLAT + "stand 0 20 249;", 0, 1, 0, 59, true);
        whole(FLAT + "stand 0 20 250;", 0, 1, 0, 0, true);
        for (int base = 0; base < 60; base++) {
            whole(FLAT + "stand 0 20 251;", 0, 1, 0, base, false);
            whole(FLAT + "stand 0 20 251;", 0, ALL_OVER, 0, base, false);
            whole(FLAT + "stand 0 20 400;", 0, ALL_OVER, 0, base, false);
        }
        // The height there: 100 higher at 100 than at 0
        String slope = "wall 200 150 350;";
        whole(slope + "stand 0 120 270;", 0, 1, 0, 0, true);
        whole(slope + "stand 0 120 271;", 0, 1, 0, 59, false);
        whole(slope + "stand 0 121 271;", 0, 1, 0, 0, true);
    }

    private static void figuresOver() {
        Check.sentence("a FIGURE lies over e (e and OFFSET, rest by REPEAT, is F or more and below F + G, or that less REPEAT)");
        int[][] figures = {{0, 1}, {0, 2}, {0, 59}, {0, 60}, {10, 20}, {50, 10}, {50, 11}, {50, 20}, {59, 1}, {59, 2}, {59, 60}, {30, 60}, {30, 59}};
        for (int[] figure : figures) {
            int from = figure[0];
            int behind = figure[0] + figure[1];
            for (int base = 0; base < 60; base++) {
                int rest = (130 + base) % 60;
                boolean over = rest >= from && rest < behind || rest >= from - 60 && rest < behind - 60;
                whole(FLAT + "stand 0 20 120;", 0, from * 1000 + figure[1], 0, base, over);
            }
        }
    }

    private static void whollyBetween() {
        Check.sentence("from DEPTH s to s + G wholly between 0 and the HEIGHT there,");
        // F 10, G 20; 5 deep: with base 10 it begins at the top.
        whole(FLAT + "stand 0 20 245;", 0, 10020, 0, 10, true);
        whole(FLAT + "stand 0 20 245;", 0, 10020, 0, 11, false);
        whole(FLAT + "stand 0 20 245;", 0, 10020, 0, 9, true);
        // 247 deep: with base 20 it ends at the floor.
        whole(FLAT + "stand 0 20 3;", 0, 10020, 0, 20, true);
        whole(FLAT + "stand 0 20 3;", 0, 10020, 0, 19, false);
        whole(FLAT + "stand 0 20 3;", 0, 10020, 0, 21, true);
        // At the floor itself no figure can be: what is there is below it.
        for (int base = 0; base < 60; base++) {
            whole(FLAT + "stand 0 20 0;", 0, ALL_OVER, 0, base, false);
            whole(FLAT + "stand 0 20 0;", 0, 1, 0, base, false);
        }
        whole(FLAT + "stand 0 20 1;", 0, 1, 0, 51, true);
        // Just as high as the wall
        HalfDrop x = Check.withRoom("wall 200 100 100;stand 0 20 50;");
        x.paper(50, 100, 0, 1000, 100);
        x.paper(50, 101, 0, 1000, 101);
        int[][] due = {{0, 0}, {1, 1}, {99, 1}};
        for (int[] row : due) {
            x.done(0, 0, 0, row[0]);
            Check.due("as high as the wall, base " + row[0], row[1], x.faults(0, 3));
        }
        for (int base = 0; base < 101; base++) {
            x.done(0, 1, 0, base);
            Check.due("higher than the wall, base " + base, 1, x.faults(0, 3));
        }
        // By the height there, 155 at 5 of a slope: 145 deep, 15 high, it begins 5 ahead at least.
        whole("wall 200 150 350;stand 0 5 10;", 0, 15, 0, 39, false);
        whole("wall 200 150 350;stand 0 5 10;", 0, 15, 0, 40, true);
        whole("wall 200 150 350;stand 0 5 10;", 0, 15, 0, 49, true);
        whole("wall 200 150 350;stand 0 5 10;", 0, 15, 0, 50, false);
    }

    private static final int FIGURE = 10020;
    private static final int BASE = 40;

    /** With this figure and base it goes from 80 to 100 above the floor over the stand. */
    private static void opened(String opening, boolean want) {
        whole("wall 200 250 250;wall 100 250 250;" + opening + "stand 0 20 100;", 0, FIGURE, 0, BASE, want);
    }

    private static void openingsAtPlaces() {
        Check.sentence("and no OPENING has the place within (or at an end)");
        opened("", true);
        opened("door 0 0 19 200;", true);
        opened("door 0 0 20 200;", false);
        opened("door 0 0 21 200;", false);
        opened("door 0 19 40 200;", false);
        opened("door 0 20 40 200;", false);
        opened("door 0 21 40 200;", true);
        opened("window 0 0 19 50 200;", true);
        opened("window 0 0 20 50 200;", false);
        opened("window 0 20 40 50 200;", false);
        opened("window 0 21 40 50 200;", true);
        opened("door 1 10 30 200;", true);
        opened("door 1 10 30 200;door 0 10 30 200;", false);
        opened("door 0 21 30 200;window 0 1 19 1 2;door 0 19 20 81;", false);
        // At a corner it is on the right wall.
        String corner = "wall 100 250 250;wall 100 250 250;stand 0 100 100;";
        whole(corner + "door 0 50 100 200;", 0, FIGURE, 80, BASE, true);
        whole(corner + "door 1 0 50 200;", 0, FIGURE, 80, BASE, false);
        whole(corner + "door 1 1 50 200;", 0, FIGURE, 80, BASE, true);
    }

    private static void fullAndEmptyOpenings() {
        Check.sentence("and no OPENING has the place within (or at an end)");
        String seven = "door 0 1 2 50;".repeat(7);
        opened(seven + "door 0 1 2 50;", true);
        opened(seven + "door 0 20 21 81;", false);
        opened(seven + "window 0 20 21 99 101;", false);
        // A door that was read and then cut off is none of the room's.
        HalfDrop x = new HalfDrop();
        Check.feed(x, "wall 210 250 250;stand 0 20 100;door 0 0 200 200;");
        Check.due("fault with the door", -1, x.fault());
        x.end(32);
        x.room();
        x.paper(50, 60, 0, 1000, ALL_OVER);
        x.paper(50, 60, 2, 1000, ALL_OVER);
        x.done(0, 0, 0, 0);
        Check.due("the stand", 0, x.faults(0, 3));
        Check.due("the seam", 250, x.faults(0, 1));
        x.done(0, 1, 0, 0);
        Check.due("the stand, if free", 0, x.faults(0, 3));
    }

    private static void openingsAtHeights() {
        Check.sentence("and a height in common with it (more than an end).");
        opened("door 0 10 30 79;", true);
        opened("door 0 10 30 80;", true);
        opened("door 0 10 30 81;", false);
        opened("window 0 10 30 1 79;", true);
        opened("window 0 10 30 1 80;", true);
        opened("window 0 10 30 1 81;", false);
        opened("window 0 10 30 99 200;", false);
        opened("window 0 10 30 100 200;", true);
        opened("window 0 10 30 101 200;", true);
        opened("window 0 10 30 80 100;", false);
        opened("window 0 10 30 89 90;", false);
        opened("window 0 10 30 1 249;", false);
        // The stand itself is in the window's heights or not: the figure counts.
        opened("window 0 10 30 100 101;", true);
        opened("window 0 10 30 80 81;", false);
    }

    private static void freeStand(String opening, int y, boolean want) {
        whole(FLAT + opening + "stand 0 20 " + y + ";", 2, 1, 0, 0, want);
    }

    private static void freeStands() {
        Check.sentence("Free: if it is 5 or more from both sides, and no OPENING has it within (or at an end),");
        int[][] sides = {{4, 0}, {5, 1}, {45, 1}, {46, 0}, {50, 0}};
        for (int[] row : sides) {
            whole(FLAT + "stand 0 " + row[0] + " 100;", 2, 1, 0, 7, row[1] == 1);
        }
        freeStand("window 0 0 19 50 150;", 100, true);
        freeStand("window 0 0 20 50 150;", 100, false);
        freeStand("window 0 20 40 50 150;", 100, false);
        freeStand("window 0 21 40 50 150;", 100, true);
        Check.sentence("with Y from its lower to its upper end (a door from 0).");
        String window = "window 0 10 30 50 150;";
        freeStand(window, 49, true);
        freeStand(window, 50, false);
        freeStand(window, 51, false);
        freeStand(window, 149, false);
        freeStand(window, 150, false);
        freeStand(window, 151, true);
        String door = "door 0 10 30 150;";
        freeStand(door, 0, false);
        freeStand(door, 1, false);
        freeStand(door, 150, false);
        freeStand(door, 151, true);
        freeStand("window 0 10 30 1 150;", 0, true);
        freeStand("", 250, true);
        freeStand("", 251, true);
        freeStand("", 400, true);
        freeStand("", 0, true);
    }

    private static void otherFaults() {
        Check.sentence("FAULTS of a DONE ROOM: 0 all, 1 the seam, 2 narrow, 3 stands that aren't WHOLE (bits). NONE for others, or if it isn't DONE.");
        HalfDrop x = Check.withRoom("wall 209 250 250;stand 0 20 100;stand 0 50 100;");
        x.paper(50, 60, 0, 1000, ALL_OVER);
        for (int what = -1; what < 5; what++) {
            Check.due("not done, " + what, -1, x.faults(0, what));
        }
        x.done(0, 0, 0, 0);
        int[] due = {400, 250, 50, 2};
        for (int what = 0; what < 4; what++) {
            Check.due("faults(0, " + what + ")", due[what], x.faults(0, what));
        }
        int[][] wrong = {{0, -1}, {0, 4}, {0, LEAST}, {0, MOST}, {-1, 0}, {1, 0}, {6, 0}, {LEAST, 0}, {MOST, 0}};
        for (int[] w : wrong) {
            Check.due("faults(" + w[0] + ", " + w[1] + ")", -1, x.faults(w[0], w[1]));
        }
    }

    private static void best(HalfDrop x, int s, int start, int base, int faults) {
        int[] due = {start, base, faults};
        for (int what = 0; what < 3; what++) {
            Check.due("best(0, 0, " + s + ", " + what + ")", due[what], x.best(0, 0, s, what));
        }
    }

    private static void bestStarts() {
        Check.sentence("BEST is the START and BASE (as START 0, s, 2s, .., BASE 0, s, ..; s told, 1 .. 50)");
        // The seam is always bad, and least at the last place.
        HalfDrop x = Check.withRoom("wall 100 300 100;");
        x.paper(30, 60, 0, 1000, 1);
        int[][] due = {{1, 99, 102}, {2, 98, 104}, {3, 99, 102}, {7, 98, 104}, {33, 99, 102}, {34, 68, 164}, {49, 98, 104}, {50, 50, 200}};
        for (int[] row : due) {
            best(x, row[0], row[1], 0, row[2]);
        }
        // As many steps as fit ROUND: a START of 100 would be none.
        HalfDrop y = Check.withRoom("wall 101 300 100;");
        y.paper(30, 60, 0, 1000, 1);
        best(y, 50, 100, 0, 101);
        best(y, 25, 100, 0, 101);
        best(y, 1, 100, 0, 101);
        HalfDrop z = Check.withRoom("wall 50 100 100;");
        z.paper(120, 10, 1, 300, 1);
        best(z, 50, 0, 0, 100);
    }

    private static void bestOfNarrow() {
        Check.sentence("with the least FAULTS in all,");
        HalfDrop x = Check.withRoom("wall 109 200 200;");
        x.paper(50, 60, 2, 1000, 1);
        best(x, 1, 0, 0, 50);
        HalfDrop y = Check.withRoom("wall 109 200 200;door 0 20 40 150;stand 0 25 180;");
        y.paper(50, 60, 0, 1000, 1);
        // From 20 on the seam shows 50; the stand is 5 from it, 20 deep: base 40
        best(y, 1, 20, 40, 100);
        best(y, 20, 20, 40, 100);
    }

    private static void bestBases() {
        Check.sentence("BEST is the START and BASE (as START 0, s, 2s, .., BASE 0, s, ..; s told, 1 .. 50)");
        // 1 deep, F 0 and G 1: base 59 alone
        HalfDrop x = Check.withRoom("wall 100 200 200;stand 0 20 199;");
        x.paper(50, 60, 0, 1000, 1);
        best(x, 1, 0, 59, 0);
        best(x, 2, 0, 0, 100);
        best(x, 50, 0, 0, 100);
        // 10 deep: base 50 alone
        HalfDrop y = Check.withRoom("wall 100 200 200;stand 0 20 190;");
        y.paper(50, 60, 0, 1000, 1);
        best(y, 1, 0, 50, 0);
        best(y, 25, 0, 50, 0);
        best(y, 50, 0, 50, 0);
        best(y, 49, 0, 0, 100);
        // A repeat of 10 or 50 has but the base 0 with a step of 50, one of 51 has 50 too.
        HalfDrop z = Check.withRoom("wall 100 200 200;stand 0 20 199;");
        z.paper(50, 51, 0, 1000, 1);
        best(z, 50, 0, 50, 0);
        HalfDrop w = Check.withRoom("wall 100 200 200;stand 0 20 150;");
        w.paper(50, 50, 0, 1000, 1);
        best(w, 50, 0, 0, 0);
    }

    private static void likeOnes() {
        Check.sentence("with the least FAULTS in all, of like ones the least START, then BASE.");
        HalfDrop x = Check.withRoom(FLAT);
        x.paper(50, 60, 0, 1000, 1);
        best(x, 1, 0, 0, 0);
        // 60 deep: in an even strip base 0, in an odd one base 30; from 0 on it is in the second.
        HalfDrop y = Check.withRoom(FLAT + "stand 0 70 190;");
        y.paper(50, 60, 1, 1000, 1);
        best(y, 1, 0, 30, 0);
        best(y, 50, 50, 0, 0);
        // All bases of a figure all over are like; the first start that is far enough from the stand counts.
        HalfDrop z = Check.withRoom(FLAT + "stand 0 50 100;");
        z.paper(50, 60, 0, 1000, ALL_OVER);
        best(z, 1, 5, 0, 0);
        best(z, 4, 8, 0, 0);
        best(z, 50, 0, 0, 100);
        // The seam counts most, so it's on the low wall, 60 .. 109; from 69 on the stand is in the middle of the last strip.
        HalfDrop w = Check.withRoom("wall 60 400 400;wall 50 100 100;stand 1 4 50;");
        w.paper(50, 60, 0, 1000, 1);
        best(w, 1, 69, 10, 100);
        // At the floor it is never whole.
        HalfDrop v = Check.withRoom("wall 60 400 400;wall 50 100 100;stand 1 4 0;");
        v.paper(50, 60, 0, 1000, 1);
        best(v, 1, 60, 0, 200);
        // Free: no seam counts, so the first start is as good.
        HalfDrop u = Check.withRoom("wall 60 400 400;wall 50 100 100;stand 0 10 100;");
        u.paper(50, 60, 2, 1000, 1);
        best(u, 1, 0, 0, 0);
    }

    private static void otherBests() {
        Check.sentence("BEST of a ROOM with a PAPER, by steps s: 0 START, 1 BASE, 2 FAULTS; NONE for others, or if there are none such.");
        HalfDrop x = Check.withRoom(FLAT);
        Check.due("no paper", -1, x.best(0, 0, 1, 0));
        x.paper(50, 60, 0, 1000, 1);
        int[][] wrong = {{0, 0, 0, 0}, {0, 0, -1, 0}, {0, 0, 51, 0}, {0, 0, LEAST, 0}, {0, 0, MOST, 0}, {0, 0, 1, -1}, {0, 0, 1, 3}, {0, 0, 1, LEAST},
            {0, 0, 1, MOST}, {-1, 0, 1, 0}, {1, 0, 1, 0}, {6, 0, 1, 0}, {MOST, 0, 1, 0}, {0, -1, 1, 0}, {0, 1, 1, 0}, {0, 4, 1, 0}, {0, LEAST, 1, 0}};
        for (int[] w : wrong) {
            for (int what = 0; what < 3; what++) {
                int asked = w[3] == 0 ? what : w[3];
                Check.due("best(" + w[0] + ", " + w[1] + ", " + w[2] + ", " + asked + ")", -1, x.best(w[0], w[1], w[2], asked));
            }
        }
        best(x, 1, 0, 0, 0);
        best(x, 50, 0, 0, 0);
        Check.due("it isn't done by that", -1, x.of(0, 4));
        x.done(0, 0, 7, 8);
        best(x, 1, 0, 0, 0);
        Check.due("the start stays", 7, x.of(0, 5));
        Check.due("the base stays", 8, x.of(0, 6));
    }
}
