/** Promises 27 to 30: day, hang, image, on. */
public final class DayTest {
    public static void main(String[] args) {
        oneHanger();
        twoHangers();
        lazy();
        roundings();
        refusedDays();
        hanging();
        images();
        roomsSince();
        Check.finish();
    }

    /** Strips 210 long: 4 minutes to paste, 9 to hang. */
    private static HalfDrop room(int wall) {
        HalfDrop x = Check.withRoom("wall " + wall + " 200 200;");
        x.paper(50, 60, 0, 1000, 1);
        x.done(0, 0, 0, 0);
        return x;
    }

    private static void day(HalfDrop x, int hangers, int times, int lazy, int end, int spoilt) {
        String call = "day(0, " + hangers + ", " + times + ", " + lazy + ", ";
        Check.due(call + "0)", end, x.day(0, hangers, times, lazy, 0));
        Check.due(call + "1)", spoilt, x.day(0, hangers, times, lazy, 1));
    }

    private static void oneHanger() {
        HalfDrop x = room(200);
        // Ready at 14, 18, 22, 26; hung from 14, 23, 32, 41 on: waits 0, 5, 10, 15.
        day(x, 1, 1000, 0, 50, 3);
        day(x, 1, 1004, 0, 50, 3);
        day(x, 1, 1005, 0, 50, 2);
        day(x, 1, 1009, 0, 50, 2);
        day(x, 1, 1010, 0, 50, 1);
        day(x, 1, 1014, 0, 50, 1);
        day(x, 1, 1015, 0, 50, 0);
        day(x, 1, 1060, 0, 50, 0);
        day(x, 1, 100, 0, 41, 3);
        day(x, 1, 3000, 0, 70, 3);
    }

    private static void twoHangers() {
        HalfDrop x = room(200);
        // Ready at 14, 18, 22, 26; hung from 14 (first), 18 (second), 23 (first), 27 (second).
        day(x, 2, 1000, 0, 36, 2);
        day(x, 2, 1001, 0, 36, 0);
        HalfDrop y = room(50);
        day(y, 2, 1000, 0, 23, 0);
    }

    private static void lazy() {
        HalfDrop x = room(200);
        // Begun at 0, 9, 18, 27, so that they are ready at 14, 23, 32, 41.
        day(x, 1, 1000, 1, 50, 0);
        // Soaking 30: begun at 0, 9, 18, 27 too.
        day(x, 1, 3000, 1, 70, 0);
        // With two the third is begun at 9, when the paster would be free at 8.
        day(x, 2, 1000, 1, 36, 0);
    }

    private static void roundings() {
        // Long 100 (by 100 just 1), 99 and 149, with trim 0
        HalfDrop x = Check.withRoom("wall 50 100 100;");
        x.trim(0);
        x.paper(50, 60, 0, 1000, 1);
        x.done(0, 0, 0, 0);
        day(x, 1, 100, 0, 3 + 1 + 7, 0);
        HalfDrop y = Check.withRoom("wall 50 149 149;");
        y.trim(0);
        y.paper(50, 60, 0, 1000, 1);
        y.done(0, 0, 0, 0);
        day(y, 1, 100, 0, 3 + 1 + 7, 0);
        // The pieces above and below a window count together: 60 and 40 long.
        HalfDrop z = Check.withRoom("wall 50 200 200;window 0 0 50 40 140;");
        z.trim(0);
        z.paper(50, 60, 0, 1000, 1);
        z.done(0, 0, 0, 0);
        Check.due("pieces", 2, z.of(0, 8));
        day(z, 1, 100, 0, 3 + 1 + 7, 0);
    }

    private static void refusedDays() {
        HalfDrop x = room(200);
        int[][] wrong = {
            {0, 0, 1000, 0, 0}, {0, 3, 1000, 0, 0}, {0, -1, 1000, 0, 0}, {0, 1, 99, 0, 0}, {0, 1, 0, 0, 0}, {0, 1, -1000, 0, 0},
            {0, 1, 3100, 0, 0}, {0, 1, 1061, 0, 0}, {0, 1, 1099, 0, 0}, {0, 1, 1000, 2, 0}, {0, 1, 1000, -1, 0}, {0, 1, 1000, 0, 2},
            {0, 1, 1000, 0, -1}, {1, 1, 1000, 0, 0}, {-1, 1, 1000, 0, 0}, {0, 1, Integer.MIN_VALUE, 0, 0}, {0, 1, Integer.MAX_VALUE, 0, 0}};
        for (int[] w : wrong) {
            Check.due("a day that can't be, " + w[1] + ", " + w[2] + ", " + w[3] + ", " + w[4], -1, x.day(w[0], w[1], w[2], w[3], w[4]));
        }
        day(x, 1, 3060, 0, 70, 0);
        Check.addRoom(x, "wall 50 200 200;");
        Check.due("a room that isn't done", -1, x.day(1, 1, 1000, 0, 0));
    }

    private static void hanging() {
        HalfDrop x = room(200);
        Check.due("hang 0", -1, x.hang(0, 0));
        Check.due("hang -1", -1, x.hang(0, -1));
        Check.due("hang least", -1, x.hang(0, Integer.MIN_VALUE));
        Check.due("hang 5", -1, x.hang(0, 5));
        Check.due("hang most", -1, x.hang(0, Integer.MAX_VALUE));
        Check.due("hang 1", 1, x.hang(0, 1));
        day(x, 1, 1000, 0, 41, 2);
        Check.due("hang 4", -1, x.hang(0, 4));
        Check.due("hang 3", 4, x.hang(0, 3));
        Check.due("hang 1 more", -1, x.hang(0, 1));
        day(x, 1, 1000, 0, 0, 0);
        Check.due("hung", 4, x.of(0, 9));
        x.done(0, 0, 0, 0);
        Check.due("hung anew", 0, x.of(0, 9));
        Check.due("room 1", -1, x.hang(1, 1));
        Check.due("room -1", -1, x.hang(-1, 1));
        Check.addRoom(x, "wall 50 200 200;");
        Check.due("a room that isn't done", -1, x.hang(1, 1));
    }

    private static void images() {
        HalfDrop x = room(200);
        x.paper(40, 60, 0, 1000, 1);
        Check.due("image(-1)", false, x.image(-1));
        Check.due("image(3)", false, x.image(3));
        Check.due("on(-1)", false, x.on(-1));
        Check.due("on(3)", false, x.on(3));
        Check.due("on(2)", false, x.on(2));
        x.hang(0, 2);
        x.keep(0, 300, 0);
        Check.due("image(2)", true, x.image(2));
        x.hang(0, 1);
        x.keep(0, 400, 1);
        x.keep(1, 500, 2);
        Check.due("image(0)", true, x.image(0));
        x.done(0, 1, 7, 8);
        x.trim(9);
        x.batch(0, 3);
        Check.due("on(1)", false, x.on(1));
        Check.due("on(2)", true, x.on(2));
        state(x, 0, 0, 0, 2, 1);
        Check.due("trim stays as it is", 9, x.count(2));
        Check.due("batches stay as they are", 1, x.count(3));
        Check.due("ends go on from 1", 1, x.keep(0, 10, 0));
        Check.due("on(0)", true, x.on(0));
        state(x, 0, 0, 0, 3, 3);
        x.done(0, 1, 7, 8);
        Check.due("image(0) anew", true, x.image(0));
        Check.due("on(2) again", true, x.on(2));
        state(x, 0, 0, 0, 2, 1);
        Check.due("on(0) as it is now", true, x.on(0));
        state(x, 1, 7, 8, 0, 3);
        // The ends themselves are as they were.
        HalfDrop y = room(50);
        y.trim(0);
        y.keep(0, 200, 0);
        y.image(1);
        Check.due("mended", 1, y.mended(0, 0));
        HalfDrop z = room(50);
        z.trim(0);
        z.image(1);
        z.keep(0, 199, 0);
        z.image(0);
        z.on(1);
        z.keep(0, 200, 0);
        Check.due("mended", 1, z.mended(0, 0));
        z.on(0);
        Check.due("mended by the other", -1, z.mended(0, 0));
        // Phase and paper of an end come back too: 200 long, phase 0.
        HalfDrop w = room(50);
        w.trim(0);
        w.paper(40, 60, 0, 1000, 1);
        w.image(2);
        w.keep(0, 200, 0);
        w.image(0);
        w.on(2);
        w.keep(0, 200, 1);
        w.image(1);
        Check.due("of another phase", -1, w.mended(0, 0));
        w.on(0);
        Check.due("of its phase", 1, w.mended(0, 0));
        w.on(2);
        w.keep(1, 200, 0);
        Check.due("of another paper", -1, w.mended(0, 0));
        w.on(1);
        Check.due("of another phase again", -1, w.mended(0, 0));
        w.on(0);
        Check.due("of its phase and paper", 1, w.mended(0, 0));
    }

    private static void state(HalfDrop x, int paper, int start, int base, int hung, int ends) {
        Check.due("paper", paper, x.of(0, 4));
        Check.due("start", start, x.of(0, 5));
        Check.due("base", base, x.of(0, 6));
        Check.due("hung", hung, x.of(0, 9));
        Check.due("ends", ends, x.count(4));
    }

    private static void roomsSince() {
        HalfDrop x = Check.withRoom("wall 100 200 200;");
        x.image(0);
        x.paper(50, 60, 0, 1000, 1);
        x.done(0, 0, 0, 0);
        Check.addRoom(x, "wall 150 200 200;");
        x.done(1, 0, 0, 0);
        x.hang(1, 1);
        x.image(1);
        Check.due("on(0)", true, x.on(0));
        Check.due("rooms stay", 2, x.count(0));
        Check.due("papers stay", 1, x.count(1));
        Check.due("the first isn't done", -1, x.of(0, 4));
        Check.due("the second isn't done", -1, x.of(1, 9));
        Check.due("but it's there", 150, x.of(1, 2));
        Check.due("all", 0, x.all(0));
        Check.due("on(1)", true, x.on(1));
        Check.due("the second is done", 1, x.of(1, 9));
        Check.due("all", 2, x.all(0));
        Check.feed(x, "wall 50 ");
        x.on(0);
        Check.due("the text stays", 8, x.count(5));
    }
}
