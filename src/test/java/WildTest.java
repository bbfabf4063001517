import java.util.Random;

/** Rule 7 of LANGUAGE.md: no call throws, for any arguments in any state; and a run stays small. */
public final class WildTest {
    private static final int[] WILD = {
        Integer.MIN_VALUE, Integer.MIN_VALUE + 1, -1000000, -129, -2, -1, 0, 1, 2, 3, 4, 5, 6, 7, 8, 9, 10, 11, 12, 31, 59, 60, 119, 120,
        127, 128, 239, 240, 241, 299, 479, 480, 481, 599, 600, 999, 1000, 1001, 2000, 3060, 4799, 4800, 119120, 1000000, Integer.MAX_VALUE};
    private static final String[] ROOMS = {
        // The most strips, each with two pieces
        "wall 600 400 400;".repeat(8) + "window 0 0 600 1 2;window 1 0 600 1 2;window 2 0 600 1 2;window 3 0 600 1 2;"
            + "window 4 0 600 1 2;window 5 0 600 1 2;window 6 0 600 1 2;window 7 0 600 1 2;stand 0 0 0;stand 7 600 400;stand 3 9 9;",
        "wall 50 100 100;",
        "wall 600 200 300;" + "door 0 1 2 50;".repeat(8),
        "wall 50 100 400;wall 50 400 100;lean 0 50;lean 1 - 50;door 0 0 50 99;stand 0 50 0;",
        "wall 300 250 250;wall 300 260 240;wall 299 250 250;door 0 0 300 200;window 1 0 300 100 200;stand 2 100 100;"};
    private static final int[][] PAPERS = {{20, 10, 0, 300, 1}, {120, 120, 1, 2000, 119120}, {20, 120, 2, 2000, 1}, {20, 119, 1, 450, 60060}};

    private WildTest() {
    }

    public static void main(String[] args) {
        Random random = new Random(7);
        for (int run = 0; run < 300; run++) {
            HalfDrop x = random.nextInt(20) == 0 ? new HalfDrop() : prepared(random);
            for (int call = 0; call < 512; call++) {
                call(x, random);
            }
            Check.due("trim stays one that can be", true, x.count(2) >= 0 && x.count(2) <= 20);
        }
        most();
        Check.finish();
    }

    private static HalfDrop prepared(Random random) {
        HalfDrop x = new HalfDrop();
        for (int n = random.nextInt(6); n >= 0; n--) {
            Check.addRoom(x, ROOMS[random.nextInt(ROOMS.length)]);
        }
        for (int n = random.nextInt(4); n >= 0; n--) {
            int[] p = PAPERS[random.nextInt(PAPERS.length)];
            x.paper(p[0], p[1], p[2], p[3], p[4]);
        }
        for (int room = 0; room < 6; room++) {
            x.done(room, random.nextInt(4), 50 * random.nextInt(90), random.nextInt(10));
        }
        return x;
    }

    private static void call(HalfDrop x, Random random) {
        int[] a = new int[5];
        for (int i = 0; i < 5; i++) {
            a[i] = random.nextInt(3) == 0 ? random.nextInt(6) : WILD[random.nextInt(WILD.length)];
        }
        try {
            changing(x, random.nextInt(40), a);
        } catch (RuntimeException | StackOverflowError thrown) {
            Check.due("a call that throws " + thrown, 0, 1);
        }
    }

    private static void changing(HalfDrop x, int which, int[] a) {
        switch (which) {
            case 0: x.feed(a[0], a[1], a[2], a[3], a[4]); break;
            case 1: x.end(a[0]); break;
            case 2: x.fault(); break;
            case 3: x.room(); break;
            case 4: x.paper(a[0], a[1], a[2], a[3], a[4]); break;
            case 5: x.trim(a[0]); break;
            case 6: x.done(a[0], a[1], a[2], a[3]); break;
            case 7: x.batch(a[0], a[1]); break;
            case 8: x.keep(a[0], a[1], a[2]); break;
            case 9: x.hang(a[0], a[1]); break;
            case 10: x.image(a[0]); break;
            case 11: x.on(a[0]); break;
            case 12: x.count(a[0]); break;
            case 13: x.best(a[0], a[1], a[2], a[3]); break;
            default: asking(x, which, a);
        }
    }

    private static void asking(HalfDrop x, int which, int[] a) {
        switch (which % 17) {
            case 0: x.of(a[0], a[1]); break;
            case 1: x.height(a[0], a[1]); break;
            case 2: x.strip(a[0], a[1], a[2]); break;
            case 3: x.piece(a[0], a[1], a[2]); break;
            case 4: x.rolls(a[0], a[1]); break;
            case 5: x.left(a[0], a[1], a[2]); break;
            case 6: x.faults(a[0], a[1]); break;
            case 7: x.shown(a[0], a[1]); break;
            case 8: x.run(a[0], a[1], a[2]); break;
            case 9: x.cuts(a[0]); break;
            case 10: x.shared(a[0], a[1]); break;
            case 11: x.own(a[0], a[1]); break;
            case 12: x.all(a[0]); break;
            case 13: x.mended(a[0], a[1]); break;
            case 14: x.border(a[0], a[1], a[2]); break;
            case 15: x.day(a[0], a[1], a[2], a[3], a[4]); break;
            default: x.piece(a[0], a[1], 5 + (a[2] & 1));
        }
    }

    /** Six of the greatest rooms, all with the narrowest paper and a roll for each piece. */
    private static void most() {
        HalfDrop x = new HalfDrop();
        String room = "wall 600 400 400;".repeat(8) + "window 0 0 600 200 201;window 1 0 600 200 201;window 2 0 600 200 201;window 3 0 600 200 201;"
            + "window 4 0 600 200 201;window 5 0 600 200 201;window 6 0 600 200 201;window 7 0 600 200 201;";
        x.paper(20, 10, 2, 300, 1);
        for (int n = 0; n < 6; n++) {
            Check.addRoom(x, room);
            Check.due("the most strips", 240, x.done(n, 0, 0, 0));
            Check.due("the most pieces", 480, x.of(n, 8));
            Check.due("a roll for each piece", 480, x.rolls(n, 2));
        }
        Check.due("rolls of all rooms", 2880, x.all(0));
        Check.due("the last piece", 479, x.piece(5, 479, 5));
        Check.due("a roll behind the last", -1, x.left(5, 480, 0));
        Check.due("the last roll", 90, x.left(5, 479, 0));
        Check.due("one wall's own", 60, x.own(5, 7));
        // 209 and 210 long together: 6 minutes to paste, 13 to hang
        Check.due("the longest day", 6 + 10 + 240 * 13, x.day(5, 1, 1000, 0, 0));
        Check.due("its spoilt ones", 239, x.day(5, 1, 1000, 0, 1));
    }
}
