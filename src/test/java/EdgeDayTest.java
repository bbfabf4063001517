/** Promises 27 to 30 at their bounds, sentence by sentence: a DAY, HUNG, IMAGES. */
public final class EdgeDayTest {
    private static final int LEAST = Integer.MIN_VALUE;
    private static final int MOST = Integer.MAX_VALUE;

    public static void main(String[] args) {
        pasting();
        piecesTogether();
        soaking();
        oneBehindTheOther();
        hangersFreeFirst();
        spoilt();
        longestDay();
        takeNobodysTime();
        lazy();
        lazyWithTwo();
        fromTheNextOn();
        daysThatCantBe();
        hanging();
        hungAnew();
        numbersOfImages();
        whatImagesKeep();
        whatImagesDontKeep();
        fullAndEmptyEnds();
        roomsSince();
        Check.finish();
    }

    private static HalfDrop done(String room, int trim) {
        HalfDrop x = Check.withRoom(room);
        x.trim(trim);
        x.paper(50, 60, 0, 1000, 1);
        x.paper(40, 60, 2, 1000, 1);
        x.done(0, 0, 0, 0);
        return x;
    }

    private static void day(HalfDrop x, int hangers, int times, int lazy, int end, int spoilt) {
        String call = "day(0, " + hangers + ", " + times + ", " + lazy + ", ";
        Check.due(call + "0)", end, x.day(0, hangers, times, lazy, 0));
        Check.due(call + "1)", spoilt, x.day(0, hangers, times, lazy, 1));
    }

    private static void pasting() {
        // how long, minutes to paste, minutes to hang
        int[][] due = {{100, 3, 7}, {149, 3, 7}, {150, 3, 8}, {199, 3, 8}, {200, 4, 9}, {299, 4, 10}, {300, 5, 11}, {399, 5, 12}, {400, 6, 13}};
        for (int[] row : due) {
            HalfDrop x = done("wall 50 " + row[0] + " " + row[0] + ";", 0);
            Check.sentence("2 and the LONG of its PIECES together by 100 (cut) minutes each.");
            day(x, 1, 100, 0, row[1] + 1 + row[2], 0);
            Check.sentence("hangs it from then on, or when free: 5 and LONG together by 50 (cut) minutes.");
            day(x, 2, 100, 0, row[1] + 1 + row[2], 0);
        }
        // Above a door there may be less: 1, 49, 50 and 99, and with trims 100
        int[][] doors = {{99, 2, 5}, {51, 2, 5}, {50, 2, 6}};
        for (int[] row : doors) {
            day(done("wall 50 100 100;door 0 0 50 " + row[0] + ";", 0), 1, 100, 0, row[1] + 1 + row[2], 0);
        }
        day(done("wall 50 150 150;door 0 0 50 51;", 0), 1, 100, 0, 2 + 1 + 6, 0);
        day(done("wall 50 150 150;door 0 0 50 50;", 0), 1, 100, 0, 3 + 1 + 7, 0);
        day(done("wall 50 150 150;door 0 0 50 90;", 20), 1, 100, 0, 3 + 1 + 7, 0);
        day(done("wall 50 400 400;", 20), 1, 100, 0, 6 + 1 + 13, 0);
    }

    private static void piecesTogether() {
        Check.sentence("2 and the LONG of its PIECES together by 100 (cut) minutes each.");
        // 60 and 40 together are 100, 60 and 39 are 99.
        day(done("wall 50 200 200;window 0 0 50 40 140;", 0), 1, 100, 0, 3 + 1 + 7, 0);
        day(done("wall 50 200 200;window 0 0 50 39 140;", 0), 1, 100, 0, 2 + 1 + 6, 0);
        // 1 and 1, with trims 41 and 41
        day(done("wall 50 100 100;window 0 0 50 1 99;", 0), 1, 100, 0, 2 + 1 + 5, 0);
        day(done("wall 50 100 100;window 0 0 50 1 99;", 20), 1, 100, 0, 2 + 1 + 6, 0);
        // 99 and 300, with trims 139 and 340
        day(done("wall 50 400 400;window 0 0 50 300 301;", 20), 1, 100, 0, 6 + 1 + 14, 0);
    }

    private static void soaking() {
        Check.sentence("It SOAKS so many minutes (1 .. 30);");
        HalfDrop x = done("wall 50 100 100;", 0);
        for (int minutes = 1; minutes <= 30; minutes++) {
            day(x, 1, minutes * 100, 0, 3 + minutes + 7, 0);
            day(x, 2, minutes * 100 + 60, 1, 3 + minutes + 7, 0);
        }
    }

    private static void oneBehindTheOther() {
        Check.sentence("A DAY: STRIPS of a DONE ROOM from that which is next on are pasted one behind the other from minute 0:");
        // 3 minutes to paste and 7 to hang: ready at 4, 7, 10, hung from 4, 11, 18 on.
        day(done("wall 150 100 100;", 0), 1, 100, 0, 25, 2);
        // With two: from 4 and 7 on, and the third from 11 on, when it's ready since 10.
        day(done("wall 150 100 100;", 0), 2, 100, 0, 18, 1);
    }

    private static final String UNLIKE = "wall 50 400 400;wall 50 100 100;wall 50 400 400;wall 50 100 100;door 1 0 50 99;";

    private static void hangersFreeFirst() {
        Check.sentence("then the hanger (of 1 or 2) who is free first (of like ones the first)");
        // Ready at 7, 9, 15 and 18, to hang 13, 5, 13 and 7 minutes: 7 .. 20, 9 .. 14, then the second's 15 .. 28 and the first's 20 .. 27.
        HalfDrop x = done(UNLIKE, 0);
        day(x, 2, 100, 0, 28, 1);
        day(x, 2, 101, 0, 28, 1);
        day(x, 2, 102, 0, 28, 0);
        // One alone: 7 .. 20 .. 25 .. 38 .. 45, which wait 0, 11, 10 and 20.
        day(x, 1, 100, 0, 45, 3);
        day(x, 1, 110, 0, 45, 2);
        day(x, 1, 111, 0, 45, 1);
        day(x, 1, 120, 0, 45, 0);
    }

    private static void spoilt() {
        Check.sentence("SPOILT is a STRIP that waits longer than a bound (0 .. 60) behind its SOAKING.");
        // 210 long: 4 minutes to paste and 9 to hang, so each waits 5 minutes longer than the one ahead: the 13th 60, the 14th 65.
        HalfDrop thirteen = done("wall 600 200 200;wall 50 200 200;", 5);
        day(thirteen, 1, 1060, 0, 14 + 13 * 9, 0);
        day(thirteen, 1, 1059, 0, 14 + 13 * 9, 1);
        day(thirteen, 1, 1055, 0, 14 + 13 * 9, 1);
        day(thirteen, 1, 1054, 0, 14 + 13 * 9, 2);
        day(thirteen, 1, 1005, 0, 14 + 13 * 9, 11);
        day(thirteen, 1, 1004, 0, 14 + 13 * 9, 12);
        day(thirteen, 1, 1000, 0, 14 + 13 * 9, 12);
        HalfDrop fourteen = done("wall 600 200 200;wall 100 200 200;", 5);
        day(fourteen, 1, 1060, 0, 14 + 14 * 9, 1);
        // What never waits isn't spoilt by a bound of 0.
        day(done("wall 50 200 200;", 5), 1, 1000, 0, 23, 0);
    }

    private static void longestDay() {
        Check.sentence("A DAY: STRIPS of a DONE ROOM from that which is next on are pasted one behind the other from minute 0:");
        HalfDrop x = Check.withRoom("wall 600 400 400;".repeat(8));
        x.trim(0);
        x.paper(20, 60, 2, 1000, 1);
        x.done(0, 0, 0, 0);
        // 240 strips, 6 minutes to paste and 13 to hang
        day(x, 1, 100, 0, 6 + 1 + 240 * 13, 239);
        day(x, 1, 100, 1, 6 + 1 + 240 * 13, 0);
        x.hang(0, 239);
        day(x, 1, 100, 0, 6 + 1 + 13, 0);
    }

    private static void takeNobodysTime() {
        Check.sentence("STRIPS without PIECES take nobody's time.");
        // There are none such: above the highest door 1 is left, which takes 2 minutes and 5. What is hung takes none.
        HalfDrop x = done("wall 100 100 100;door 0 0 100 99;", 0);
        day(x, 1, 100, 0, 2 + 1 + 5 + 5, 1);
        x.hang(0, 1);
        day(x, 1, 100, 0, 2 + 1 + 5, 0);
        x.hang(0, 1);
        day(x, 1, 100, 0, 0, 0);
    }

    private static void lazy() {
        Check.sentence("LAZY: the paster begins a STRIP not ahead of the minute that lets it be ready when a hanger is free (as those ahead let know),");
        HalfDrop x = done(UNLIKE, 0);
        // Pasted 0 .. 6, 17 .. 19, 19 .. 25 and 35 .. 38; hung 7 .. 20 .. 25, 26 .. 39 .. 46.
        day(x, 1, 100, 1, 46, 0);
        Check.sentence("but for that as soon as can be.");
        // The first one at once, and with a long soaking all as those ahead let: 0 .. 6, 17 .. 19, 19 .. 25, 35 .. 38
        day(x, 1, 3000, 1, 46 + 29, 0);
        // As long to paste and soak as to hang: 3 and 4 against 7, ready at 7, 14, 21
        day(done("wall 150 100 100;", 0), 1, 400, 1, 28, 0);
        day(done("wall 150 100 100;", 0), 1, 400, 0, 28, 2);
        day(done("wall 50 100 100;", 0), 1, 400, 1, 14, 0);
    }

    private static void lazyWithTwo() {
        Check.sentence("not ahead of the minute that lets it be ready when a hanger is free (as those ahead let know)");
        // 0 .. 6 and 6 .. 8 for hangers who are free; the third's is free at 14: 8 .. 14 is soon enough; the fourth's at 20: from 16 on.
        HalfDrop x = done(UNLIKE, 0);
        day(x, 2, 100, 1, 28, 0);
        // Six like ones, 3 to paste and 7 to hang: ready at 4, 7, 11, 14, 18, 21
        day(done("wall 300 100 100;", 0), 2, 100, 1, 28, 0);
        day(done("wall 300 100 100;", 0), 2, 100, 0, 28, 4);
    }

    private static void fromTheNextOn() {
        Check.sentence("STRIPS of a DONE ROOM from that which is next on");
        HalfDrop x = done(UNLIKE, 0);
        // From the second on 3 .. 8, 9 .. 22 .. 29; from the third on 7 .. 20 .. 27.
        int[] due = {45, 29, 27, 11, 0};
        for (int hung = 0; hung <= 4; hung++) {
            Check.due("the day from " + hung + " on", due[hung], x.day(0, 1, 100, 0, 0));
            x.hang(0, 1);
        }
    }

    private static void daysThatCantBe() {
        Check.sentence("A DAY (hangers 1 or 2, times SOAKING * 100 and the bound, lazy 0 or 1): 0 the minute of the end, 1 how many are SPOILT;");
        HalfDrop x = done("wall 100 200 200;", 5);
        int[][] fine = {{1, 100, 0}, {2, 100, 0}, {1, 160, 0}, {1, 3000, 0}, {1, 3060, 0}, {1, 3060, 1}, {2, 3060, 1}};
        for (int[] f : fine) {
            Check.due("a day that can be", true, x.day(0, f[0], f[1], f[2], 0) > 0);
            Check.due("a day that can be", true, x.day(0, f[0], f[1], f[2], 1) >= 0);
        }
        Check.sentence("NONE for others, or if they can't be.");
        int[][] wrong = {
            {0, 0, 1000, 0}, {0, 3, 1000, 0}, {0, -1, 1000, 0}, {0, LEAST, 1000, 0}, {0, MOST, 1000, 0},
            {0, 1, 99, 0}, {0, 1, 60, 0}, {0, 1, 0, 0}, {0, 1, -1, 0}, {0, 1, -100, 0}, {0, 1, LEAST, 0}, {0, 1, MOST, 0},
            {0, 1, 161, 0}, {0, 1, 199, 0}, {0, 1, 3061, 0}, {0, 1, 3099, 0}, {0, 1, 3100, 0}, {0, 1, 3160, 0},
            {0, 1, 1000, -1}, {0, 1, 1000, 2}, {0, 1, 1000, LEAST}, {0, 1, 1000, MOST},
            {-1, 1, 1000, 0}, {1, 1, 1000, 0}, {6, 1, 1000, 0}, {LEAST, 1, 1000, 0}, {MOST, 1, 1000, 0}};
        for (int[] w : wrong) {
            for (int what = 0; what < 2; what++) {
                Check.due("day(" + w[0] + ", " + w[1] + ", " + w[2] + ", " + w[3] + ", " + what + ")", -1, x.day(w[0], w[1], w[2], w[3], what));
            }
        }
        int[] others = {-1, 2, LEAST, MOST};
        for (int what : others) {
            Check.due("day(0, 1, 1000, 0, " + what + ")", -1, x.day(0, 1, 1000, 0, what));
        }
        Check.addRoom(x, "wall 50 100 100;");
        Check.due("of a room that isn't done", -1, x.day(1, 1, 1000, 0, 0));
    }

    private static void hanging() {
        Check.sentence("So many STRIPS more are HUNG: how many are; NONE if it isn't DONE, n isn't above 0, or there aren't so many.");
        HalfDrop x = Check.withRoom("wall 200 100 100;");
        x.paper(50, 60, 0, 1000, 1);
        Check.due("not done", -1, x.hang(0, 1));
        x.done(0, 0, 0, 0);
        int[][] due = {{0, -1}, {-1, -1}, {LEAST, -1}, {MOST, -1}, {5, -1}, {1, 1}, {4, -1}, {MOST, -1}, {2, 3}, {2, -1}, {0, -1}, {1, 4}, {1, -1}, {MOST, -1}};
        int hung = 0;
        for (int[] row : due) {
            Check.due("hang(0, " + row[0] + ") behind " + hung, row[1], x.hang(0, row[0]));
            hung = row[1] == -1 ? hung : row[1];
            Check.due("hung then", hung, x.of(0, 9));
        }
        HalfDrop y = done("wall 200 100 100;", 5);
        Check.due("all at once", 4, y.hang(0, 4));
        int[] rooms = {-1, 1, 6, LEAST, MOST};
        for (int room : rooms) {
            Check.due("hang(" + room + ", 1)", -1, x.hang(room, 1));
        }
        HalfDrop one = done("wall 50 100 100;", 5);
        Check.due("two of one", -1, one.hang(0, 2));
        Check.due("one of one", 1, one.hang(0, 1));
    }

    private static void hungAnew() {
        Check.sentence("HUNG STRIPS of a DONE ROOM are counted from 0 on (0 as it is DONE, also anew).");
        HalfDrop x = done("wall 200 100 100;", 5);
        Check.due("as it is done", 0, x.of(0, 9));
        x.hang(0, 4);
        Check.due("done with the same", 4, x.done(0, 0, 0, 0));
        Check.due("anew", 0, x.of(0, 9));
        x.hang(0, 3);
        Check.due("a done that is refused", -1, x.done(0, 0, 200, 0));
        Check.due("it stays", 3, x.of(0, 9));
        Check.due("done with another", 5, x.done(0, 1, 199, 59));
        Check.due("anew", 0, x.of(0, 9));
        Check.due("one more than before", 5, x.hang(0, 5));
    }

    private static void numbersOfImages() {
        int[] wrong = {-1, 3, LEAST, MOST};
        HalfDrop x = done("wall 200 100 100;", 5);
        for (int k : wrong) {
            Check.sentence("An IMAGE comes: true; false if there is no such number.");
            Check.due("image(" + k + ")", false, x.image(k));
            Check.sentence("An IMAGE is gone on from: true; false if there is none.");
            Check.due("on(" + k + ")", false, x.on(k));
        }
        for (int k = 0; k < 3; k++) {
            Check.sentence("An IMAGE is gone on from: true; false if there is none.");
            Check.due("on(" + k + ") ahead of it", false, x.on(k));
            Check.sentence("An IMAGE comes: true; false if there is no such number.");
            Check.due("image(" + k + ")", true, x.image(k));
            Check.due("image(" + k + ") again", true, x.image(k));
            Check.sentence("An IMAGE is gone on from: true; false if there is none.");
            Check.due("on(" + k + ")", true, x.on(k));
            Check.due("on(" + k + ") again", true, x.on(k));
            for (int other = k + 1; other < 3; other++) {
                Check.due("on(" + other + "), of which there's none", false, x.on(other));
            }
        }
        Check.due("of a new object", true, new HalfDrop().image(0));
    }

    private static void state(HalfDrop x, int room, int paper, int start, int base, int hung) {
        int[] due = {paper, start, base};
        for (int what = 0; what < 3; what++) {
            Check.due("of(" + room + ", " + (4 + what) + ")", due[what], x.of(room, 4 + what));
        }
        Check.due("of(" + room + ", 9)", hung, x.of(room, 9));
    }

    private static void whatImagesKeep() {
        Check.sentence("An IMAGE (0 .. 2) keeps of all ROOMS with what they are DONE and how many are HUNG, and ENDS.");
        HalfDrop x = new HalfDrop();
        x.paper(50, 60, 0, 1000, 1);
        x.paper(40, 60, 2, 1000, 1);
        for (int room = 0; room < 6; room++) {
            Check.addRoom(x, "wall 200 100 100;");
        }
        x.image(2);
        for (int room = 0; room < 5; room++) {
            x.done(room, room & 1, 10 * room, room);
            x.hang(room, 1 + room % 4);
        }
        x.image(0);
        for (int room = 0; room < 6; room++) {
            x.done(room, 1 - (room & 1), 199, 59);
        }
        x.image(1);
        x.on(0);
        for (int room = 0; room < 5; room++) {
            state(x, room, room & 1, 10 * room, room, 1 + room % 4);
        }
        state(x, 5, -1, -1, -1, -1);
        // Going on from it changes nothing of it.
        x.hang(1, 1);
        x.done(2, 1, 1, 1);
        x.on(0);
        state(x, 1, 1, 10, 1, 2);
        state(x, 2, 0, 20, 2, 3);
        x.on(1);
        for (int room = 0; room < 6; room++) {
            state(x, room, 1 - (room & 1), 199, 59, 0);
        }
        x.on(2);
        for (int room = 0; room < 6; room++) {
            state(x, room, -1, -1, -1, -1);
        }
        // An image with the same number takes the place of the one ahead.
        x.done(0, 0, 3, 4);
        x.image(0);
        x.on(2);
        x.on(0);
        state(x, 0, 0, 3, 4, 0);
        state(x, 1, -1, -1, -1, -1);
    }

    private static void whatImagesDontKeep() {
        Check.sentence("An IMAGE (0 .. 2) keeps of all ROOMS with what they are DONE and how many are HUNG, and ENDS.");
        HalfDrop x = done("wall 200 100 100;", 5);
        x.image(0);
        x.trim(20);
        x.paper(30, 60, 0, 1000, 1);
        x.batch(0, 3);
        Check.addRoom(x, "wall 50 100 100;");
        Check.feed(x, "wall 9");
        x.keep(0, 9, 0);
        x.on(0);
        int[] due = {2, 3, 20, 1, 0, 6};
        for (int what = 0; what < 6; what++) {
            Check.due("count(" + what + ")", due[what], x.count(what));
        }
        Check.due("long, with the trim of now", 140, x.piece(0, 0, 3));
        Check.due("the batch of since", 0, x.shared(0, 0));
    }

    private static void fullAndEmptyEnds() {
        Check.sentence("how many are HUNG, and ENDS.");
        HalfDrop x = done("wall 50 100 100;", 0);
        x.image(0);
        for (int end = 0; end < 10; end++) {
            x.keep(0, end == 9 ? 100 : 99, 0);
        }
        x.image(1);
        Check.due("full", -1, x.keep(0, 100, 0));
        x.on(0);
        Check.due("empty", 0, x.count(4));
        Check.due("not mended", -1, x.mended(0, 0));
        Check.due("the first again", 0, x.keep(0, 100, 0));
        Check.due("mended by it", 1, x.mended(0, 0));
        x.on(1);
        Check.due("full again", 10, x.count(4));
        Check.due("an 11th", -1, x.keep(0, 100, 0));
        Check.due("mended by the 10th", 512, x.mended(0, 0));
        // Of each one its paper, length and phase: 100 long from 0 on
        int[][] unlike = {{0, 100, 0}, {1, 100, 0}, {0, 99, 0}, {0, 100, 1}};
        for (int other = 1; other < unlike.length; other++) {
            HalfDrop y = done("wall 50 100 100;", 0);
            y.image(2);
            y.keep(unlike[0][0], unlike[0][1], unlike[0][2]);
            y.image(0);
            y.on(2);
            y.keep(unlike[other][0], unlike[other][1], unlike[other][2]);
            y.image(1);
            Check.due("not mended by " + other, -1, y.mended(0, 0));
            y.on(0);
            Check.due("mended by the first", 1, y.mended(0, 0));
            y.on(1);
            Check.due("not mended by " + other + " again", -1, y.mended(0, 0));
        }
    }

    private static void roomsSince() {
        Check.sentence("ROOMS that came since are not DONE then.");
        HalfDrop x = new HalfDrop();
        x.image(0);
        x.paper(50, 60, 0, 1000, 1);
        for (int room = 0; room < 6; room++) {
            Check.addRoom(x, "wall 200 100 100;");
            x.done(room, 0, 0, 0);
            if (room == 2) {
                x.image(1);
            }
        }
        x.image(2);
        x.on(1);
        for (int room = 0; room < 6; room++) {
            state(x, room, room < 3 ? 0 : -1, room < 3 ? 0 : -1, room < 3 ? 0 : -1, room < 3 ? 0 : -1);
        }
        Check.due("rooms stay", 6, x.count(0));
        Check.due("they can be done again", 4, x.done(5, 0, 1, 1));
        x.on(0);
        for (int room = 0; room < 6; room++) {
            state(x, room, -1, -1, -1, -1);
        }
        x.on(2);
        for (int room = 0; room < 6; room++) {
            state(x, room, 0, 0, 0, 0);
        }
    }
}
