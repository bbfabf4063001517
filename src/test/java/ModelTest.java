import java.util.Random;

/** All promises: runs of calls by a fixed seed, each answer held against the model's. */
public final class ModelTest {
    private static final int RUNS = 400;
    private static final int CALLS = 120;

    private final Random random;
    private final long seed;
    private final HalfDrop x = new HalfDrop();
    private final Model model = new Model();
    private int leaned;
    private int stood;

    private ModelTest(long seed) {
        this.seed = seed;
        // Neighbouring seeds begin with like numbers, so they are strewn first.
        this.random = new Random(seed * 0x9E3779B97F4A7C15L);
    }

    public static void main(String[] args) {
        long first = args.length > 0 ? Long.parseLong(args[0]) : 1;
        int runs = args.length > 1 ? Integer.parseInt(args[1]) : RUNS;
        for (long seed = first; seed < first + runs && Check.wrongs() < 20; seed++) {
            new ModelTest(seed).run();
        }
        Check.finish();
    }

    private void run() {
        int style = random.nextInt(4);
        for (int n = 0; n <= random.nextInt(4); n++) {
            tell(style);
            due("room()", model.room(), x.room());
        }
        for (int n = 0; n <= random.nextInt(4); n++) {
            paper();
        }
        for (int n = random.nextInt(4); n > 0; n--) {
            batch();
        }
        for (int room = 0; room < x.count(0); room++) {
            done(room, x.of(room, 2));
        }
        for (int call = 0; call < CALLS && Check.wrongs() < 20; call++) {
            call(style);
        }
        for (int room = 0; room < x.count(0); room++) {
            everythingOf(room);
        }
    }

    private void due(String call, long want, long got) {
        Check.due("seed " + seed + ": " + call, want, got);
    }

    private void due(String call, boolean want, boolean got) {
        Check.due("seed " + seed + ": " + call, want, got);
    }

    private int between(int least, int most) {
        return least + random.nextInt(most - least + 1);
    }

    /** Mostly a number between both, now and then one just out of it or far away. */
    private int about(int least, int most) {
        switch (random.nextInt(40)) {
            case 0:
                return least - 1;
            case 1:
                return most + 1;
            case 2:
                return random.nextInt();
            case 3:
                return least;
            case 4:
                return most;
            default:
                return most < least ? least : between(least, most);
        }
    }

    // ---- texts

    private void tell(int style) {
        String text = text(style);
        if (random.nextInt(10) != 0) {
            due("end(0)", model.end(0), x.end(0));
        }
        if (random.nextInt(8) == 0) {
            text = spoil(text);
        }
        int before = x.count(5);
        for (int at = 0; at < text.length(); at += 20) {
            int[] n = new int[5];
            for (int i = 0; i < 20; i++) {
                n[i / 4] = n[i / 4] << 8 | (at + i < text.length() ? text.charAt(at + i) : ' ');
            }
            due("feed", model.feed(n[0], n[1], n[2], n[3], n[4]), x.feed(n[0], n[1], n[2], n[3], n[4]));
        }
        int length = before + text.length();
        due("end(" + length + ")", model.end(length), x.end(length));
        due("fault() of " + text.replace('\n', '~'), model.fault(), x.fault());
    }

    private String text(int style) {
        StringBuilder text = new StringBuilder();
        int walls = style == 0 ? between(1, 2) : between(1, random.nextInt(10) == 0 ? 9 : 8);
        int[] lengths = new int[walls];
        int[] lesser = new int[walls];
        int lines = 0;
        boolean leaning = random.nextBoolean();
        leaned = 0;
        stood = 0;
        for (int w = 0; w < walls; w++) {
            lengths[w] = style == 0 ? between(50, 90) : style == 3 ? 10 * between(5, 15) : between(50, random.nextBoolean() ? 150 : 600);
            int left = between(100, 400);
            int right = random.nextInt(3) == 0 ? left : between(100, 400);
            lesser[w] = Math.min(left, right);
            line(text, "wall", lengths[w], left, right);
            if (leaning && random.nextInt(3) != 0) {
                lean(text, w);
            }
            if (random.nextInt(3) == 0) {
                more(text, w, lengths, lesser);
                lines++;
            }
        }
        for (int n = between(0, random.nextInt(10) == 0 ? 12 - lines : 5); n > 0; n--) {
            more(text, random.nextInt(walls), lengths, lesser);
        }
        return text.length() > 400 ? text.substring(0, text.lastIndexOf(";", 399) + 1) : text.toString();
    }

    private void more(StringBuilder text, int wall, int[] lengths, int[] lesser) {
        int length = lengths[wall];
        int from = random.nextInt(3) == 0 ? 0 : between(0, length - 1);
        int to = random.nextInt(3) == 0 ? length : between(from + 1, length);
        switch (random.nextInt(5)) {
            case 0:
                lean(text, wall);
                break;
            case 1:
                if (stood == 4 && random.nextInt(10) != 0) {
                    return;
                }
                stood++;
                line(text, "stand", wall, random.nextInt(5) == 0 ? length : between(0, length), between(0, random.nextInt(5) == 0 ? 400 : lesser[wall]));
                break;
            case 2:
                line(text, "door", wall, from, to, between(50, lesser[wall] - 1));
                break;
            default:
                int lower = between(1, Math.min(300, lesser[wall] - 2));
                line(text, "window", wall, from, to, lower, between(lower + 1, lesser[wall] - 1));
        }
    }

    /** Mostly a corner that doesn't lean yet. */
    private void lean(StringBuilder text, int wall) {
        if ((leaned >> wall & 1) == 0 || random.nextInt(20) == 0) {
            leaned |= 1 << wall;
            line(text, "lean", wall, between(-50, 50));
        }
    }

    private void line(StringBuilder text, String word, int... numbers) {
        text.append(word);
        for (int number : numbers) {
            text.append(random.nextInt(9) == 0 ? "\n " : " ").append(number < 0 ? "-" : "");
            text.append(random.nextInt(20) == 0 ? "0" : "").append(Math.abs(number));
        }
        text.append(random.nextInt(9) == 0 ? " ;\n" : ";");
    }

    private String spoil(String text) {
        StringBuilder spoilt = new StringBuilder(text);
        String signs = "0123456789;- \nwaldornest!A" + (char) 200;
        for (int n = between(1, 3); n > 0 && spoilt.length() > 0; n--) {
            int at = random.nextInt(spoilt.length());
            char sign = signs.charAt(random.nextInt(signs.length()));
            switch (random.nextInt(3)) {
                case 0:
                    spoilt.setCharAt(at, sign);
                    break;
                case 1:
                    spoilt.deleteCharAt(at);
                    break;
                default:
                    spoilt.insert(at, sign);
            }
        }
        return spoilt.length() > 400 ? spoilt.substring(0, 400) : spoilt.toString();
    }

    // ---- calls

    private void paper() {
        int repeat = about(10, 120);
        int width = random.nextInt(3) == 0 ? 10 * between(2, 12) : about(20, 120);
        int roll = about(300, random.nextBoolean() ? 700 : 2000);
        int figure = about(0, Math.max(0, Math.min(119, repeat - 1))) * 1000 + about(1, Math.max(1, Math.min(120, repeat)));
        int drop = about(0, 2);
        due("paper", model.paper(width, repeat, drop, roll, figure), x.paper(width, repeat, drop, roll, figure));
    }

    private int aRoom() {
        return about(0, x.count(0) - 1);
    }

    private int aPaper() {
        return about(0, x.count(1) - 1);
    }

    private void call(int style) {
        int room = aRoom();
        int round = Math.max(1, x.of(room, 2));
        int walls = Math.max(1, x.of(room, 0));
        switch (random.nextInt(16)) {
            case 0:
            case 1:
            case 2:
                done(room, round);
                break;
            case 3:
                int trim = about(0, 20);
                due("trim(" + trim + ")", model.trim(trim), x.trim(trim));
                break;
            case 4:
                batch();
                break;
            case 5:
                keep();
                break;
            case 6:
                int n = random.nextInt(3) == 0 ? about(1, Math.max(1, x.of(room, 7))) : 1;
                due("hang(" + room + ", " + n + ")", model.hang(room, n), x.hang(room, n));
                break;
            case 7:
                int k = about(0, 2);
                due("image(" + k + ")", model.image(k), x.image(k));
                break;
            case 8:
                int from = about(0, 2);
                due("on(" + from + ")", model.on(from), x.on(from));
                break;
            case 9:
                if (random.nextInt(6) == 0) {
                    tell(style);
                    due("room()", model.room(), x.room());
                } else if (random.nextInt(6) == 0) {
                    paper();
                } else {
                    int bytes = about(0, x.count(5));
                    due("end(" + bytes + ")", model.end(bytes), x.end(bytes));
                }
                break;
            case 10:
                best(room, round);
                break;
            default:
                ask(room, round, walls);
        }
    }

    private void done(int room, int round) {
        int paper = random.nextInt(3) == 0 ? aPaper() : 0;
        int start = about(0, round - 1);
        int base = random.nextInt(3) == 0 ? about(0, 119) : between(0, 9);
        due("done(" + room + ", " + paper + ", " + start + ", " + base + ")", model.done(room, paper, start, base), x.done(room, paper, start, base));
    }

    private void batch() {
        int paper = random.nextInt(3) == 0 ? aPaper() : 0;
        int rolls = about(1, random.nextBoolean() ? 12 : 30);
        due("batch(" + paper + ", " + rolls + ")", model.batch(paper, rolls), x.batch(paper, rolls));
    }

    private void keep() {
        int paper = aPaper();
        int length = about(1, random.nextBoolean() ? 700 : 2000);
        int phase = random.nextInt(3) == 0 ? about(0, 119) : between(0, 9);
        due("keep(" + paper + ", " + length + ", " + phase + ")", model.keep(paper, length, phase), x.keep(paper, length, phase));
    }

    /** The model tries all starts, so it's asked only where they are few. */
    private void best(int room, int round) {
        int paper = aPaper();
        int s = round > 300 ? about(45, 50) : about(20, 50);
        int what = about(0, 2);
        if (s < 20 && s > 0) {
            return;
        }
        due("best(" + room + ", " + paper + ", " + s + ", " + what + ")", model.best(room, paper, s, what), x.best(room, paper, s, what));
    }

    private void ask(int room, int round, int walls) {
        int cuts = about(0, (1 << walls - 1) - 1);
        int wall = about(0, walls - 1);
        due("run", model.run(room, cuts, wall), x.run(room, cuts, wall));
        due("shown", model.shown(room, cuts), x.shown(room, cuts));
        due("own(" + room + ", " + wall + ")", model.own(room, wall), x.own(room, wall));
        if (walls <= 5 || random.nextInt(40) == 0) {
            int of = about(-1, walls - 1);
            due("shared(" + room + ", " + of + ")", model.shared(room, of), x.shared(room, of));
        }
        int higher = about(0, 400);
        int length = about(50, 2000);
        due("border", model.border(room, higher, length), x.border(room, higher, length));
        int hangers = about(1, 2);
        int times = about(1, 30) * 100 + about(0, random.nextBoolean() ? 5 : 60);
        int lazy = about(0, 1);
        int what = about(0, 1);
        due("day(" + room + ", " + hangers + ", " + times + ", " + lazy + ", " + what + ")",
            model.day(room, hangers, times, lazy, what), x.day(room, hangers, times, lazy, what));
        int place = about(0, round - 1);
        due("height(" + room + ", " + place + ")", model.height(room, place), x.height(room, place));
        int strip = about(0, Math.max(0, x.of(room, 7) - 1));
        due("mended(" + room + ", " + strip + ")", model.mended(room, strip), x.mended(room, strip));
        int paper = aPaper();
        due("all(" + paper + ")", model.all(paper), x.all(paper));
        int counted = about(0, 5);
        due("count", model.count(counted), x.count(counted));
        int ofWhat = about(0, 9);
        due("of", model.of(room, ofWhat), x.of(room, ofWhat));
        int fault = about(0, 3);
        due("faults(" + room + ", " + fault + ")", model.faults(room, fault), x.faults(room, fault));
        int rollsWhat = about(0, 2);
        due("rolls(" + room + ", " + rollsWhat + ")", model.rolls(room, rollsWhat), x.rolls(room, rollsWhat));
        int roll = about(0, Math.max(0, x.rolls(room, 2) - 1));
        due("left", model.left(room, roll, what), x.left(room, roll, what));
        int piece = about(0, Math.max(0, x.of(room, 8) - 1));
        int pieceWhat = about(0, 6);
        due("piece(" + room + ", " + piece + ", " + pieceWhat + ")", model.piece(room, piece, pieceWhat), x.piece(room, piece, pieceWhat));
        int stripWhat = about(0, 5);
        due("strip(" + room + ", " + strip + ", " + stripWhat + ")", model.strip(room, strip, stripWhat), x.strip(room, strip, stripWhat));
    }

    private void everythingOf(int room) {
        for (int what = -1; what < 11; what++) {
            due("of(" + room + ", " + what + ")", model.of(room, what), x.of(room, what));
        }
        for (int what = 0; what < 4; what++) {
            due("faults(" + room + ", " + what + ")", model.faults(room, what), x.faults(room, what));
            due("rolls(" + room + ", " + what + ")", model.rolls(room, what), x.rolls(room, what));
        }
        due("cuts(" + room + ")", model.cuts(room), x.cuts(room));
        int strips = Math.min(x.of(room, 7), 10);
        for (int strip = 0; strip < strips; strip++) {
            for (int what = 0; what < 7; what++) {
                due("strip(" + room + ", " + strip + ", " + what + ")", model.strip(room, strip, what), x.strip(room, strip, what));
                due("piece(" + room + ", " + strip + ", " + what + ")", model.piece(room, strip, what), x.piece(room, strip, what));
            }
        }
    }
}
