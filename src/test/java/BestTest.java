import java.util.Random;

/** Promise 16: BEST of rooms by fixed seeds, held against FAULTS of each START and BASE by themselves. */
public final class BestTest {
    private static final int RUNS = 150;
    private static final int[] STEPS = {1, 2, 3, 5, 7, 11, 19, 30, 49, 50};

    private BestTest() {
    }

    public static void main(String[] args) {
        long first = args.length > 0 ? Long.parseLong(args[0]) : 1;
        int runs = args.length > 1 ? Integer.parseInt(args[1]) : RUNS;
        for (long seed = first; seed < first + runs && Check.wrongs() < 20; seed++) {
            Random random = new Random(seed * 0x9E3779B97F4A7C15L);
            String text = text(random);
            HalfDrop x = Check.withRoom(text);
            int repeat = between(random, 10, random.nextBoolean() ? 30 : 120);
            int figure = random.nextInt(repeat) * 1000 + between(random, 1, random.nextBoolean() ? 5 : repeat);
            int width = random.nextBoolean() ? 10 * between(random, 2, 12) : between(random, 20, 120);
            x.paper(width, repeat, random.nextInt(3), 2000, figure);
            for (int n = 0; n < 3; n++) {
                int step = STEPS[random.nextInt(STEPS.length)];
                byAll("seed " + seed + ": " + text + " " + width + " wide, repeat " + repeat + ", figure " + figure, x, repeat, step);
            }
        }
        fourStands("wall 120 165 113;wall 70 179 149;door 0 25 30 60;door 0 35 45 71;stand 1 17 34;stand 0 1 54;stand 1 33 45;stand 0 11 103;",
            75, 30, 26005);
        fourStands("wall 80 129 129;stand 0 43 7;stand 0 20 68;stand 0 38 135;stand 0 6 5;", 42, 79, 38045);
        Check.finish();
    }

    /** Rooms in which the first stand alone is whole from one start, and the last one alone from another. */
    private static void fourStands(String text, int width, int repeat, int figure) {
        for (int drop = 0; drop < 3; drop++) {
            HalfDrop x = Check.withRoom(text);
            x.paper(width, repeat, drop, 2000, figure);
            for (int step : STEPS) {
                byAll(text + " drop " + drop, x, repeat, step);
            }
        }
    }

    private static int between(Random random, int least, int most) {
        return least + random.nextInt(most - least + 1);
    }

    /** Short walls, and stands near one another, so that some starts have all of them whole and others none. */
    private static String text(Random random) {
        StringBuilder text = new StringBuilder();
        int walls = between(random, 1, 3);
        for (int w = 0; w < walls; w++) {
            int left = between(random, 100, 200);
            text.append("wall ").append(50 + 10 * random.nextInt(8)).append(' ').append(left).append(' ');
            text.append(random.nextBoolean() ? left : between(random, 100, 200)).append(';');
        }
        for (int n = random.nextInt(4); n > 0; n--) {
            int from = random.nextInt(40);
            boolean door = random.nextBoolean();
            text.append(door ? "door " : "window ").append(random.nextInt(walls)).append(' ').append(from).append(' ');
            text.append(between(random, from + 1, 50)).append(door ? " " : " 40 ").append(between(random, 50, 99)).append(';');
        }
        for (int n = random.nextInt(5); n > 0; n--) {
            text.append("stand ").append(random.nextInt(walls)).append(' ').append(random.nextInt(51)).append(' ');
            text.append(random.nextInt(150)).append(';');
        }
        return text.toString();
    }

    private static void byAll(String told, HalfDrop x, int repeat, int step) {
        int[] least = {0, 0, Integer.MAX_VALUE};
        for (int start = 0; start < x.of(0, 2); start += step) {
            for (int base = 0; base < repeat; base += step) {
                x.done(0, 0, start, base);
                int got = x.faults(0, 0);
                if (got < least[2]) {
                    least = new int[] {start, base, got};
                }
            }
        }
        for (int what = 0; what < 3; what++) {
            Check.due(told + ": best(0, 0, " + step + ", " + what + ")", least[what], x.best(0, 0, step, what));
        }
    }
}
