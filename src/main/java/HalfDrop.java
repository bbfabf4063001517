/** Half a drop: rooms told in texts, papers, and how the one is hung with the other. */
public final class HalfDrop {
    public static final int NONE = -1;
    public static final int VOID = -2147483648;

    private static final int MOST_ROOMS = 6;
    private static final int MOST_PAPERS = 4;
    private static final int MOST_IMAGES = 3;
    private static final int MOST_REPEAT = 120;
    private static final int MOST_TRIM = 20;
    private static final int FIRST_TRIM = 5;

    private final Text text;
    private final Reader reader;
    private final Room[] rooms;
    private final Paper[] papers;
    private final State now;
    private final State[] images;
    private final Layout layout;
    private final Rolls cutRolls;
    private final Judge judge;
    private final Sharing sharing;
    private final Day hangingDay;
    private Room spareRoom;
    private int roomCount;
    private int paperCount;
    private int trimNow;

    public HalfDrop() {
        text = new Text();
        reader = new Reader(text);
        rooms = new Room[MOST_ROOMS];
        papers = new Paper[MOST_PAPERS];
        now = new State();
        images = new State[MOST_IMAGES];
        layout = new Layout();
        cutRolls = new Rolls();
        judge = new Judge();
        sharing = new Sharing();
        hangingDay = new Day();
        spareRoom = new Room();
        roomCount = 0;
        paperCount = 0;
        trimNow = FIRST_TRIM;
    }

    public int feed(int a, int b, int c, int d, int e) {
        if (!text.hasSpaceFor(5 * Text.BYTES_OF_A_NUMBER)) {
            return NONE;
        }
        text.add(a);
        text.add(b);
        text.add(c);
        text.add(d);
        text.add(e);
        return text.size;
    }

    public boolean end(int n) {
        return text.shorten(n);
    }

    public int fault() {
        return reader.read(spareRoom);
    }

    public int room() {
        if (roomCount >= MOST_ROOMS || reader.read(spareRoom) != NONE) {
            return NONE;
        }
        rooms[roomCount] = spareRoom;
        spareRoom = new Room();
        text.shorten(0);
        roomCount++;
        return roomCount - 1;
    }

    public int of(int room, int what) {
        Room told = roomAt(room);
        if (told == null || what > 3 && !lay(room)) {
            return NONE;
        }
        switch (what) {
            case 0:
                return told.walls.number;
            case 1:
                return told.openings;
            case 2:
                return told.walls.round;
            case 3:
                return told.stands;
            case 4:
                return now.papers[room];
            case 5:
                return layout.start;
            case 6:
                return layout.base;
            case 7:
                return layout.strips;
            case 8:
                return layout.pieces;
            case 9:
                return now.hungs[room];
            default:
                return NONE;
        }
    }

    public int height(int room, int place) {
        Room told = roomAt(room);
        if (told == null || !isFrom(0, place, told.walls.round - 1)) {
            return NONE;
        }
        return told.walls.heightAt(place);
    }

    public int paper(int width, int repeat, int drop, int roll, int figure) {
        if (paperCount >= MOST_PAPERS || !Paper.canBe(width, repeat, drop, roll, figure)) {
            return NONE;
        }
        papers[paperCount] = new Paper(width, repeat, drop, roll, figure);
        paperCount++;
        return paperCount - 1;
    }

    public boolean trim(int trim) {
        if (!isFrom(0, trim, MOST_TRIM)) {
            return false;
        }
        trimNow = trim;
        return true;
    }

    public int done(int room, int paper, int start, int base) {
        Room told = roomAt(room);
        Paper chosen = paperAt(paper);
        if (told == null || chosen == null) {
            return NONE;
        }
        if (!isFrom(0, start, told.walls.round - 1) || !isFrom(0, base, chosen.repeat - 1)) {
            return NONE;
        }
        now.papers[room] = paper;
        now.starts[room] = start;
        now.bases[room] = base;
        now.hungs[room] = 0;
        return chosen.stripsFor(told.walls.round);
    }

    public int strip(int room, int strip, int what) {
        if (!lay(room) || !isFrom(0, strip, layout.strips - 1)) {
            return NONE;
        }
        switch (what) {
            case 0:
                return layout.beginOf(strip);
            case 1:
                return layout.widthOf(strip);
            case 2:
                return layout.talls[strip];
            case 3:
                return layout.paper.offsetOf(strip, layout.base);
            case 4:
                return layout.firsts[strip + 1] - layout.firsts[strip];
            case 5:
                return layout.firsts[strip];
            default:
                return NONE;
        }
    }

    public int piece(int room, int piece, int what) {
        if (!lay(room) || !isFrom(0, piece, layout.pieces - 1)) {
            return NONE;
        }
        switch (what) {
            case 0:
                return layout.stripsOf[piece];
            case 1:
                return layout.froms[piece];
            case 2:
                return layout.tos[piece];
            case 3:
                return layout.longs[piece];
            case 4:
                return layout.phases[piece];
            case 5:
                return cutWholeRoom() ? layout.rollsOf[piece] : NONE;
            case 6:
                return cutWholeRoom() ? layout.placesOf[piece] : NONE;
            default:
                return NONE;
        }
    }

    public int rolls(int room, int what) {
        if (!lay(room) || !cutWholeRoom()) {
            return NONE;
        }
        switch (what) {
            case 0:
                return cutRolls.fewestFor(layout);
            case 1:
                return cutUp(layout.longTogether(0, layout.pieces), layout.paper.roll);
            case 2:
                return cutRolls.opened;
            default:
                return NONE;
        }
    }

    public int left(int room, int roll, int what) {
        if (!lay(room) || !cutWholeRoom() || !isFrom(0, roll, cutRolls.opened - 1)) {
            return NONE;
        }
        switch (what) {
            case 0:
                return layout.paper.roll - cutRolls.used[roll];
            case 1:
                return layout.paper.phaseAt(cutRolls.used[roll]);
            default:
                return NONE;
        }
    }

    public int faults(int room, int what) {
        if (!lay(room)) {
            return NONE;
        }
        judge.look(layout.room, layout.paper);
        int broken = judge.brokenStands(layout.start, layout.base);
        switch (what) {
            case 0:
                return judge.seamAt(layout.start) + judge.narrowness() + Judge.BROKEN_STAND * Integer.bitCount(broken);
            case 1:
                return judge.seamAt(layout.start);
            case 2:
                return judge.narrowness();
            case 3:
                return broken;
            default:
                return NONE;
        }
    }

    public int best(int room, int paper, int s, int what) {
        Room told = roomAt(room);
        Paper chosen = paperAt(paper);
        if (told == null || chosen == null || !isFrom(1, s, Judge.MOST_STEP) || !isFrom(0, what, 2)) {
            return NONE;
        }
        judge.look(told, chosen);
        judge.search(s);
        switch (what) {
            case 0:
                return judge.bestStart;
            case 1:
                return judge.bestBase;
            default:
                return judge.bestFaults;
        }
    }

    public int shown(int room, int cuts) {
        Room told = roomAt(room);
        if (told == null || !told.walls.canBeCutAt(cuts)) {
            return NONE;
        }
        return told.walls.shownWith(cuts);
    }

    public int run(int room, int cuts, int wall) {
        Room told = roomAt(room);
        if (told == null || !told.walls.canBeCutAt(cuts) || !isFrom(0, wall, told.walls.number - 1)) {
            return VOID;
        }
        return told.walls.runOf(cuts, wall);
    }

    public int cuts(int room) {
        Room told = roomAt(room);
        return told == null ? NONE : told.walls.leastCuts();
    }

    public int batch(int paper, int rolls) {
        if (paperAt(paper) == null) {
            return NONE;
        }
        return sharing.add(paper, rolls);
    }

    public int shared(int room, int wall) {
        if (!lay(room) || !isFrom(NONE, wall, layout.room.walls.number - 1) || !shareRoom(room)) {
            return NONE;
        }
        return wall == NONE ? sharing.fewestSeen : sharing.picked[wall];
    }

    public int own(int room, int wall) {
        if (!lay(room) || !isFrom(0, wall, layout.room.walls.number - 1)) {
            return NONE;
        }
        return rollsOfWall(wall);
    }

    public int all(int paper) {
        Paper chosen = paperAt(paper);
        if (chosen == null) {
            return NONE;
        }
        cutRolls.begin(chosen);
        for (int room = 0; room < roomCount; room++) {
            if (now.papers[room] == paper && lay(room) && !layout.cutFrom(cutRolls, NONE)) {
                return NONE;
            }
        }
        return cutRolls.opened;
    }

    public int keep(int paper, int length, int phase) {
        Paper chosen = paperAt(paper);
        if (chosen == null || !isFrom(0, phase, chosen.repeat - 1)) {
            return NONE;
        }
        return now.addEnd(paper, length, phase);
    }

    public int mended(int room, int strip) {
        return lay(room) ? now.leastEndsFor(layout, strip, now.papers[room]) : NONE;
    }

    public int border(int room, int higher, int length) {
        Room told = roomAt(room);
        if (told == null || !isFrom(0, higher, 400) || !isFrom(50, length, 2000)) {
            return NONE;
        }
        return cutUp(Math.max(0, told.walls.round - told.doorsAbove(higher)), length);
    }

    public int day(int room, int hangers, int times, int lazy, int what) {
        if (!lay(room) || !isFrom(0, what, 1) || !hangingDay.begin(hangers, times, lazy)) {
            return NONE;
        }
        for (int strip = now.hungs[room]; strip < layout.strips; strip++) {
            hangingDay.take(layout.longTogether(layout.firsts[strip], layout.firsts[strip + 1]));
        }
        return what == 0 ? hangingDay.lastMinute() : hangingDay.spoilt;
    }

    public int hang(int room, int n) {
        if (!lay(room) || n <= 0 || n > layout.strips - now.hungs[room]) {
            return NONE;
        }
        now.hungs[room] += n;
        return now.hungs[room];
    }

    public boolean image(int k) {
        if (!isFrom(0, k, MOST_IMAGES - 1)) {
            return false;
        }
        if (images[k] == null) {
            images[k] = new State();
        }
        images[k].copyFrom(now);
        return true;
    }

    public boolean on(int k) {
        if (!isFrom(0, k, MOST_IMAGES - 1) || images[k] == null) {
            return false;
        }
        now.copyFrom(images[k]);
        return true;
    }

    public int count(int what) {
        switch (what) {
            case 0:
                return roomCount;
            case 1:
                return paperCount;
            case 2:
                return trimNow;
            case 3:
                return sharing.batches;
            case 4:
                return now.ends;
            case 5:
                return text.size;
            default:
                return NONE;
        }
    }

    private Room roomAt(int number) {
        return isFrom(0, number, roomCount - 1) ? rooms[number] : null;
    }

    private Paper paperAt(int number) {
        return isFrom(0, number, paperCount - 1) ? papers[number] : null;
    }

    /** Puts a DONE ROOM into the layout; false if there is none such. TRIM may have changed since, so it's done for each call. */
    private boolean lay(int room) {
        Room told = roomAt(room);
        if (told == null) {
            return false;
        }
        Paper chosen = paperAt(now.papers[room]);
        if (chosen == null) {
            return false;
        }
        layout.lay(told, chosen, now.starts[room], now.bases[room], trimNow);
        return true;
    }

    private boolean cutWholeRoom() {
        cutRolls.begin(layout.paper);
        return layout.cutFrom(cutRolls, NONE);
    }

    private int rollsOfWall(int wall) {
        cutRolls.begin(layout.paper);
        return layout.cutFrom(cutRolls, wall) ? cutRolls.opened : NONE;
    }

    private boolean shareRoom(int room) {
        sharing.begin(layout.room, now.papers[room]);
        for (int wall = 0; wall < layout.room.walls.number; wall++) {
            int needed = rollsOfWall(wall);
            if (needed == NONE) {
                return false;
            }
            sharing.needs[wall] = needed;
        }
        return sharing.share();
    }

    private static boolean isFrom(int least, int value, int most) {
        return value >= least && value <= most;
    }

    /** The rest by a divisor, 0 or more for numbers below 0 too. */
    private static int rest(int value, int divisor) {
        if (divisor <= 0) {
            return 0;
        }
        int cutRest = value % divisor;
        return cutRest < 0 ? cutRest + divisor : cutRest;
    }

    private static int cutUp(int value, int divisor) {
        return divisor <= 0 ? 0 : (value + divisor - 1) / divisor;
    }

    /** The bytes of a text, and the TOKENS of it. */
    private static final class Text {
        static final int MOST_BYTES = 400;
        static final int BYTES_OF_A_NUMBER = 4;

        static final int WALL = 0;
        static final int DOOR = 1;
        static final int WINDOW = 2;
        static final int LEAN = 3;
        static final int STAND = 4;
        static final int OTHER_WORD = 5;
        static final int NUMBER = 6;
        static final int MINUS = 7;
        static final int SEMICOLON = 8;
        static final int NO_TOKEN = 9;
        static final int OVER = 10;

        /** Above each number that can stand anywhere, so that a longer one can't wrap round to a good one. */
        private static final int TOO_GREAT = 100000;

        private final int[] bytes;
        int size;
        int tokens;
        final int[] kinds;
        final int[] places;
        final int[] values;

        Text() {
            bytes = new int[MOST_BYTES];
            kinds = new int[MOST_BYTES + 1];
            places = new int[MOST_BYTES + 1];
            values = new int[MOST_BYTES + 1];
        }

        boolean hasSpaceFor(int more) {
            return more >= 0 && more <= MOST_BYTES - size;
        }

        void add(int number) {
            if (!hasSpaceFor(BYTES_OF_A_NUMBER)) {
                return;
            }
            for (int shift = 24; shift >= 0; shift -= 8) {
                bytes[size] = number >>> shift & 255;
                size++;
            }
        }

        boolean shorten(int length) {
            if (!isFrom(0, length, size)) {
                return false;
            }
            size = length;
            return true;
        }

        /** Finds the TOKENS, and behind them one that says that the text is over. A byte that begins none stands as one. */
        void split() {
            tokens = 0;
            int place = 0;
            while (place < size) {
                int behind = place + 1;
                if (isFrom('a', bytes[place], 'z')) {
                    behind = endOf(place, 'a', 'z');
                    addToken(wordKind(place, behind), place, 0);
                } else if (isFrom('0', bytes[place], '9')) {
                    behind = endOf(place, '0', '9');
                    addToken(NUMBER, place, numberFrom(place, behind));
                } else if (bytes[place] != ' ' && bytes[place] != 10) {
                    addToken(signKind(bytes[place]), place, 0);
                }
                place = Math.max(place + 1, behind);
            }
            addToken(OVER, size, 0);
        }

        private void addToken(int kind, int place, int value) {
            if (tokens > MOST_BYTES) {
                return;
            }
            kinds[tokens] = kind;
            places[tokens] = place;
            values[tokens] = value;
            tokens++;
        }

        private int endOf(int place, int least, int most) {
            int behind = place;
            while (behind < size && isFrom(least, bytes[behind], most)) {
                behind++;
            }
            return behind;
        }

        private int wordKind(int from, int to) {
            if (spells("wall", from, to)) {
                return WALL;
            }
            if (spells("door", from, to)) {
                return DOOR;
            }
            if (spells("window", from, to)) {
                return WINDOW;
            }
            if (spells("lean", from, to)) {
                return LEAN;
            }
            return spells("stand", from, to) ? STAND : OTHER_WORD;
        }

        private boolean spells(String word, int from, int to) {
            if (to - from != word.length()) {
                return false;
            }
            for (int i = 0; i < word.length(); i++) {
                if (bytes[from + i] != word.charAt(i)) {
                    return false;
                }
            }
            return true;
        }

        private int numberFrom(int from, int to) {
            int value = 0;
            for (int place = from; place < to; place++) {
                value = Math.min(TOO_GREAT, value * 10 + bytes[place] - '0');
            }
            return value;
        }

        private static int signKind(int sign) {
            if (sign == '-') {
                return MINUS;
            }
            return sign == ';' ? SEMICOLON : NO_TOKEN;
        }
    }

    /** Reads the LINES of a text into a ROOM, up to its FAULT. */
    private static final class Reader {
        private final Text text;
        private Room room;
        private int token;

        Reader(Text text) {
            this.text = text;
        }

        /** The FAULT. */
        int read(Room into) {
            text.split();
            token = 0;
            room = into;
            room.clear();
            // A line takes more than one byte, so there are fewer lines than bytes.
            for (int lines = 0; lines < Text.MOST_BYTES && !isNext(Text.OVER); lines++) {
                if (!readLine()) {
                    return placeOfNext();
                }
            }
            return room.walls.number == 0 ? text.size : NONE;
        }

        private boolean isNext(int kind) {
            return token < text.tokens && text.kinds[token] == kind;
        }

        private int placeOfNext() {
            return token < text.tokens ? text.places[token] : text.size;
        }

        /** False with the TOKEN that can't stand there as the next one. */
        private boolean readLine() {
            if (isNext(Text.WALL)) {
                return room.walls.number < Walls.MOST && readWall();
            }
            if (isNext(Text.DOOR)) {
                return room.openings < Room.MOST_OPENINGS && readDoor();
            }
            if (isNext(Text.WINDOW)) {
                return room.openings < Room.MOST_OPENINGS && readWindow();
            }
            if (isNext(Text.LEAN)) {
                return readLean();
            }
            return isNext(Text.STAND) && room.stands < Room.MOST_STANDS && readStand();
        }

        private boolean readWall() {
            token++;
            int length = readNumber(50, 600);
            int left = length == NONE ? NONE : readNumber(100, 400);
            int right = left == NONE ? NONE : readNumber(100, 400);
            if (right == NONE || !readSign(Text.SEMICOLON)) {
                return false;
            }
            room.walls.add(length, left, right);
            return true;
        }

        private boolean readDoor() {
            token++;
            int wall = readNumber(0, room.walls.number - 1);
            int from = wall == NONE ? NONE : readNumber(0, room.walls.lengthOf(wall));
            int to = from == NONE ? NONE : readNumber(from + 1, room.walls.lengthOf(wall));
            int high = to == NONE ? NONE : readNumber(50, room.walls.lesserHeightOf(wall) - 1);
            if (high == NONE || !readSign(Text.SEMICOLON)) {
                return false;
            }
            room.addOpening(true, wall, from, to, 0, high);
            return true;
        }

        private boolean readWindow() {
            token++;
            int wall = readNumber(0, room.walls.number - 1);
            int from = wall == NONE ? NONE : readNumber(0, room.walls.lengthOf(wall));
            int to = from == NONE ? NONE : readNumber(from + 1, room.walls.lengthOf(wall));
            int lower = to == NONE ? NONE : readNumber(1, 300);
            int upper = lower == NONE ? NONE : readNumber(lower + 1, room.walls.lesserHeightOf(wall) - 1);
            if (upper == NONE || !readSign(Text.SEMICOLON)) {
                return false;
            }
            room.addOpening(false, wall, from, to, lower, upper);
            return true;
        }

        private boolean readLean() {
            token++;
            if (isNext(Text.NUMBER) && room.walls.leansAt(text.values[token])) {
                return false;
            }
            int wall = readNumber(0, room.walls.number - 1);
            if (wall == NONE) {
                return false;
            }
            int sign = readSign(Text.MINUS) ? -1 : 1;
            int off = readNumber(0, 50);
            if (off == NONE || !readSign(Text.SEMICOLON)) {
                return false;
            }
            room.walls.lean(wall, sign * off);
            return true;
        }

        private boolean readStand() {
            token++;
            int wall = readNumber(0, room.walls.number - 1);
            int x = wall == NONE ? NONE : readNumber(0, room.walls.lengthOf(wall));
            int y = x == NONE ? NONE : readNumber(0, 400);
            if (y == NONE || !readSign(Text.SEMICOLON)) {
                return false;
            }
            room.addStand(wall, x, y);
            return true;
        }

        /** NONE, and it stays the next TOKEN, if it's no such number. */
        private int readNumber(int least, int most) {
            if (!isNext(Text.NUMBER) || !isFrom(least, text.values[token], most)) {
                return NONE;
            }
            token++;
            return text.values[token - 1];
        }

        private boolean readSign(int sign) {
            if (!isNext(sign)) {
                return false;
            }
            token++;
            return true;
        }
    }

    /** The WALLS of a ROOM and the corners right of them. */
    private static final class Walls {
        static final int MOST = 8;

        private final int[] begins;
        private final int[] lengths;
        private final int[] lefts;
        private final int[] rights;
        private final int[] leans;
        private final boolean[] leaning;
        int number;
        int round;

        Walls() {
            begins = new int[MOST];
            lengths = new int[MOST];
            lefts = new int[MOST];
            rights = new int[MOST];
            leans = new int[MOST];
            leaning = new boolean[MOST];
        }

        void clear() {
            number = 0;
            round = 0;
        }

        void add(int length, int left, int right) {
            if (number >= MOST) {
                return;
            }
            begins[number] = round;
            lengths[number] = length;
            lefts[number] = left;
            rights[number] = right;
            leans[number] = 0;
            leaning[number] = false;
            number++;
            round += length;
        }

        void lean(int wall, int off) {
            if (has(wall)) {
                leans[wall] = off;
                leaning[wall] = true;
            }
        }

        boolean has(int wall) {
            return wall >= 0 && wall < number;
        }

        boolean leansAt(int wall) {
            return has(wall) && leaning[wall];
        }

        int beginOf(int wall) {
            return has(wall) ? begins[wall] : 0;
        }

        int lengthOf(int wall) {
            return has(wall) ? lengths[wall] : 0;
        }

        int lesserHeightOf(int wall) {
            return has(wall) ? Math.min(lefts[wall], rights[wall]) : 0;
        }

        int rightOf(int wall) {
            return wall + 1 < number ? wall + 1 : 0;
        }

        /** The WALL on which a place lies: at an end, the right one. */
        int wallAt(int place) {
            int wall = 0;
            for (int i = 1; i < number; i++) {
                if (begins[i] <= place) {
                    wall = i;
                }
            }
            return wall;
        }

        int heightAt(int place) {
            int wall = wallAt(place);
            return heightOn(wall, place - beginOf(wall));
        }

        int heightOn(int wall, int x) {
            if (!has(wall) || lengths[wall] <= 0) {
                return 0;
            }
            return lefts[wall] + Math.floorDiv((rights[wall] - lefts[wall]) * x, lengths[wall]);
        }

        /** The greatest height at ends of WALLS between two places, the second of which may have gone on past ROUND. */
        int tallestEndBetween(int from, int to) {
            int tallest = 0;
            int ahead = number - 1;
            for (int wall = 0; wall < number; wall++) {
                int corner = begins[wall];
                if (corner > from && corner < to || corner + round > from && corner + round < to) {
                    tallest = Math.max(tallest, Math.max(rights[ahead], lefts[wall]));
                }
                ahead = wall;
            }
            return tallest;
        }

        /** Cuts are told by the WALLS left of them; right of the last one nothing can be cut. */
        boolean canBeCutAt(int cuts) {
            return number > 0 && isFrom(0, cuts, (1 << number - 1) - 1);
        }

        int runOf(int cuts, int wall) {
            int running = 0;
            for (int corner = 0; corner < wall && corner < number; corner++) {
                running = isCut(cuts, corner) ? 0 : running + runsOffAt(corner);
            }
            return running;
        }

        int shownWith(int cuts) {
            int seen = 0;
            int running = 0;
            for (int corner = 0; corner < number - 1; corner++) {
                running += runsOffAt(corner);
                if (isCut(cuts, corner)) {
                    seen += 2 * Math.abs(running);
                    running = 0;
                }
                seen += Math.abs(running);
            }
            return seen;
        }

        int leastCuts() {
            int least = 0;
            int leastShown = shownWith(0);
            int behind = number > 0 ? 1 << number - 1 : 0;
            for (int cuts = 1; cuts < behind; cuts++) {
                int seen = shownWith(cuts);
                boolean fewer = Integer.bitCount(cuts) < Integer.bitCount(least);
                if (seen < leastShown || seen == leastShown && fewer) {
                    least = cuts;
                    leastShown = seen;
                }
            }
            return least;
        }

        private static boolean isCut(int cuts, int corner) {
            return (cuts >> corner & 1) == 1;
        }

        private int runsOffAt(int corner) {
            return has(corner) ? leans[corner] * rights[corner] / 100 : 0;
        }
    }

    /** A ROOM as it was told. */
    private static final class Room {
        static final int MOST_OPENINGS = 8;
        static final int MOST_STANDS = 4;

        final Walls walls;
        int openings;
        private final boolean[] doors;
        private final int[] openingWalls;
        private final int[] froms;
        private final int[] tos;
        private final int[] lowers;
        private final int[] uppers;
        int stands;
        private final int[] standWalls;
        private final int[] standXs;
        private final int[] standYs;

        Room() {
            walls = new Walls();
            doors = new boolean[MOST_OPENINGS];
            openingWalls = new int[MOST_OPENINGS];
            froms = new int[MOST_OPENINGS];
            tos = new int[MOST_OPENINGS];
            lowers = new int[MOST_OPENINGS];
            uppers = new int[MOST_OPENINGS];
            standWalls = new int[MOST_STANDS];
            standXs = new int[MOST_STANDS];
            standYs = new int[MOST_STANDS];
        }

        void clear() {
            walls.clear();
            openings = 0;
            stands = 0;
        }

        void addOpening(boolean door, int wall, int from, int to, int lower, int upper) {
            if (openings >= MOST_OPENINGS) {
                return;
            }
            doors[openings] = door;
            openingWalls[openings] = wall;
            froms[openings] = from;
            tos[openings] = to;
            lowers[openings] = lower;
            uppers[openings] = upper;
            openings++;
        }

        void addStand(int wall, int x, int y) {
            if (stands >= MOST_STANDS) {
                return;
            }
            standWalls[stands] = wall;
            standXs[stands] = x;
            standYs[stands] = y;
            stands++;
        }

        boolean isWindow(int opening) {
            return isFrom(0, opening, openings - 1) && !doors[opening];
        }

        int lowerOf(int opening) {
            return isFrom(0, opening, openings - 1) ? lowers[opening] : 0;
        }

        int upperOf(int opening) {
            return isFrom(0, opening, openings - 1) ? uppers[opening] : 0;
        }

        private boolean lies(int wall, int x, int opening) {
            return openingWalls[opening] == wall && isFrom(froms[opening], x, tos[opening]);
        }

        /** The first OPENING that has both places of a WALL within it, or at its ends. */
        int openingWith(int wall, int x, int otherX) {
            for (int i = 0; i < openings; i++) {
                if (lies(wall, x, i) && lies(wall, otherX, i)) {
                    return i;
                }
            }
            return NONE;
        }

        /** Whether an OPENING has the place, and heights above a lower and below an upper one. */
        boolean opensAt(int wall, int x, int lower, int upper) {
            for (int i = 0; i < openings; i++) {
                if (lies(wall, x, i) && lowers[i] < upper && uppers[i] > lower) {
                    return true;
                }
            }
            return false;
        }

        /** Whether a door is at the corner right of a WALL. */
        boolean doorAtCorner(int wall) {
            int other = walls.rightOf(wall);
            for (int i = 0; i < openings; i++) {
                if (doors[i] && (lies(wall, walls.lengthOf(wall), i) || lies(other, 0, i))) {
                    return true;
                }
            }
            return false;
        }

        int doorsAbove(int height) {
            int together = 0;
            for (int i = 0; i < openings; i++) {
                if (doors[i] && uppers[i] > height) {
                    together += tos[i] - froms[i];
                }
            }
            return together;
        }

        int standPlace(int stand) {
            return isFrom(0, stand, stands - 1) ? rest(walls.beginOf(standWalls[stand]) + standXs[stand], walls.round) : 0;
        }

        int standY(int stand) {
            return isFrom(0, stand, stands - 1) ? standYs[stand] : 0;
        }
    }

    /** A PAPER. */
    private static final class Paper {
        static final int HALF = 1;
        static final int FREE = 2;

        final int width;
        final int repeat;
        final int drop;
        final int roll;
        final int figureFrom;
        final int figureHigh;

        Paper(int width, int repeat, int drop, int roll, int figure) {
            this.width = width;
            this.repeat = repeat;
            this.drop = drop;
            this.roll = roll;
            figureFrom = figure / 1000;
            figureHigh = figure % 1000;
        }

        static boolean canBe(int width, int repeat, int drop, int roll, int figure) {
            return isFrom(20, width, 120) && isFrom(10, repeat, MOST_REPEAT) && isFrom(0, drop, FREE) && isFrom(300, roll, 2000)
                && isFrom(0, figure / 1000, repeat - 1) && isFrom(1, figure % 1000, repeat);
        }

        int stripsFor(int round) {
            return cutUp(round, width);
        }

        int offsetOf(int strip, int base) {
            boolean dropped = drop == HALF && (strip & 1) == 1;
            return rest(dropped ? base + repeat / 2 : base, repeat);
        }

        int phaseAt(int place) {
            return drop == FREE ? 0 : rest(place, repeat);
        }

        /** The least place that has a PHASE, behind what is cut; with a free one, just behind. */
        int placeBehind(int used, int phase) {
            return drop == FREE ? used : used + rest(phase - used, repeat);
        }
    }

    /** What changes as ROOMS are hung, and what an IMAGE keeps of it. */
    private static final class State {
        private static final int MOST_ENDS = 10;

        final int[] papers;
        final int[] starts;
        final int[] bases;
        final int[] hungs;
        int ends;
        private final int[] endPapers;
        private final int[] endLengths;
        private final int[] endPhases;

        State() {
            papers = new int[MOST_ROOMS];
            starts = new int[MOST_ROOMS];
            bases = new int[MOST_ROOMS];
            hungs = new int[MOST_ROOMS];
            endPapers = new int[MOST_ENDS];
            endLengths = new int[MOST_ENDS];
            endPhases = new int[MOST_ENDS];
            for (int room = 0; room < MOST_ROOMS; room++) {
                papers[room] = NONE;
            }
        }

        void copyFrom(State other) {
            if (other == null) {
                return;
            }
            for (int room = 0; room < MOST_ROOMS; room++) {
                papers[room] = other.papers[room];
                starts[room] = other.starts[room];
                bases[room] = other.bases[room];
                hungs[room] = other.hungs[room];
            }
            ends = other.ends;
            for (int end = 0; end < MOST_ENDS; end++) {
                endPapers[end] = other.endPapers[end];
                endLengths[end] = other.endLengths[end];
                endPhases[end] = other.endPhases[end];
            }
        }

        int addEnd(int paper, int length, int phase) {
            if (ends >= MOST_ENDS || !isFrom(1, length, 2000)) {
                return NONE;
            }
            endPapers[ends] = paper;
            endLengths[ends] = length;
            endPhases[ends] = phase;
            ends++;
            return ends - 1;
        }

        /** The ENDS (bits, the least) from which a STRIP is MENDED. It has two PIECES at most. */
        int leastEndsFor(Layout layout, int strip, int paper) {
            if (layout == null || !isFrom(0, strip, layout.strips - 1)) {
                return NONE;
            }
            int first = layout.firsts[strip];
            int pieces = layout.firsts[strip + 1] - first;
            if (pieces == 0) {
                return 0;
            }
            int fitting = endsFor(layout, first, paper);
            return pieces == 1 ? leastOne(fitting) : leastPair(fitting, endsFor(layout, first + 1, paper));
        }

        private int leastOne(int fitting) {
            return fitting == 0 ? NONE : fitting & -fitting;
        }

        private int leastPair(int fitting, int otherFitting) {
            int least = NONE;
            for (int end = 0; end < ends; end++) {
                int bit = fitting & 1 << end;
                int otherBit = leastOne(otherFitting & ~bit);
                if (bit != 0 && otherBit != NONE && (least == NONE || (bit | otherBit) < least)) {
                    least = bit | otherBit;
                }
            }
            return least;
        }

        private int endsFor(Layout layout, int piece, int paper) {
            int fitting = 0;
            for (int end = 0; end < ends; end++) {
                if (endPapers[end] == paper && layout.fitsEnd(piece, endLengths[end], endPhases[end])) {
                    fitting |= 1 << end;
                }
            }
            return fitting;
        }
    }

    /** STRIPS and PIECES of one DONE ROOM. */
    private static final class Layout {
        static final int MOST_STRIPS = 240;
        static final int MOST_PIECES = 2 * MOST_STRIPS;

        Room room;
        Paper paper;
        int start;
        int base;
        private int trim;
        int strips;
        final int[] talls;
        /** The first PIECE of each STRIP, and behind the last STRIP how many PIECES there are. */
        final int[] firsts;
        int pieces;
        final int[] stripsOf;
        final int[] froms;
        final int[] tos;
        final int[] longs;
        final int[] phases;
        final int[] rollsOf;
        final int[] placesOf;

        Layout() {
            talls = new int[MOST_STRIPS];
            firsts = new int[MOST_STRIPS + 1];
            stripsOf = new int[MOST_PIECES];
            froms = new int[MOST_PIECES];
            tos = new int[MOST_PIECES];
            longs = new int[MOST_PIECES];
            phases = new int[MOST_PIECES];
            rollsOf = new int[MOST_PIECES];
            placesOf = new int[MOST_PIECES];
        }

        void lay(Room told, Paper chosen, int startPlace, int baseOffset, int trimEach) {
            room = told;
            paper = chosen;
            start = startPlace;
            base = baseOffset;
            trim = trimEach;
            strips = Math.min(MOST_STRIPS, paper.stripsFor(room.walls.round));
            pieces = 0;
            for (int strip = 0; strip < strips; strip++) {
                firsts[strip] = pieces;
                addPieces(strip, measure(strip));
            }
            firsts[strips] = pieces;
        }

        int beginOf(int strip) {
            return rest(start + strip * paper.width, room.walls.round);
        }

        int widthOf(int strip) {
            return Math.min(paper.width, room.walls.round - strip * paper.width);
        }

        /** Finds how TALL a STRIP is, and the OPENING within which it lies. */
        private int measure(int strip) {
            Walls walls = room.walls;
            int from = beginOf(strip);
            int to = from + widthOf(strip);
            int leftWall = walls.wallAt(from);
            int leftX = from - walls.beginOf(leftWall);
            // The right side lies on the WALL of the last place ahead of it, so that at a corner it's on the left one.
            int last = rest(to - 1, walls.round);
            int rightWall = walls.wallAt(last);
            int rightX = last - walls.beginOf(rightWall) + 1;
            int tallestSide = Math.max(walls.heightOn(leftWall, leftX), walls.heightOn(rightWall, rightX));
            talls[strip] = Math.max(tallestSide, walls.tallestEndBetween(from, to));
            return leftWall == rightWall ? room.openingWith(leftWall, leftX, rightX) : NONE;
        }

        private void addPieces(int strip, int opening) {
            int tall = talls[strip];
            int offset = paper.offsetOf(strip, base);
            addPiece(strip, offset, 0, tall - room.upperOf(opening));
            if (room.isWindow(opening)) {
                addPiece(strip, offset, tall - room.lowerOf(opening), tall);
            }
        }

        private void addPiece(int strip, int offset, int from, int to) {
            if (pieces >= MOST_PIECES) {
                return;
            }
            stripsOf[pieces] = strip;
            froms[pieces] = from;
            tos[pieces] = to;
            longs[pieces] = to - from + 2 * trim;
            phases[pieces] = paper.phaseAt(offset + from - trim);
            pieces++;
        }

        /** All LONG from one PIECE on up to another that doesn't count. */
        int longTogether(int from, int to) {
            int together = 0;
            for (int piece = Math.max(0, from); piece < to && piece < pieces; piece++) {
                together += longs[piece];
            }
            return together;
        }

        /** Cuts the PIECES by FIRST FIT, of STRIPS that begin on a WALL alone unless it's NONE; false if one is too LONG. */
        boolean cutFrom(Rolls rolls, int wall) {
            for (int piece = 0; piece < pieces; piece++) {
                if (wall != NONE && room.walls.wallAt(beginOf(stripsOf[piece])) != wall) {
                    continue;
                }
                if (!rolls.cut(longs[piece], phases[piece])) {
                    return false;
                }
                rollsOf[piece] = rolls.cutRoll;
                placesOf[piece] = rolls.cutPlace;
            }
            return true;
        }

        boolean fitsEnd(int piece, int length, int endPhase) {
            if (!isFrom(0, piece, pieces - 1)) {
                return false;
            }
            // An END is as a roll of which so much is cut that it begins with its PHASE.
            return paper.placeBehind(endPhase, phases[piece]) + longs[piece] <= endPhase + length;
        }
    }

    /** Rolls of one PAPER from which PIECES are cut. */
    private static final class Rolls {
        private static final int MOST_ROLLS = MOST_ROOMS * Layout.MOST_PIECES;
        private static final int MOST_TOLD = 12;
        /** Above the length of each roll: rolls that are begun, and what is cut from the last, are told in one number. */
        private static final int ROLL = 4096;

        private Paper paper;
        int opened;
        final int[] used;
        int cutRoll;
        int cutPlace;
        private final int[] leastOf;
        private final int[] longs;
        private final int[] phases;

        Rolls() {
            used = new int[MOST_ROLLS];
            leastOf = new int[1 << MOST_TOLD];
            longs = new int[MOST_TOLD];
            phases = new int[MOST_TOLD];
        }

        void begin(Paper chosen) {
            paper = chosen;
            opened = 0;
        }

        /** Cuts a PIECE from the first roll in which it fits; false if it's too LONG for each. */
        boolean cut(int length, int phase) {
            for (int roll = 0; roll < opened; roll++) {
                int place = paper.placeBehind(used[roll], phase);
                if (place + length <= paper.roll) {
                    take(roll, place, length);
                    return true;
                }
            }
            if (opened >= MOST_ROLLS || phase + length > paper.roll) {
                return false;
            }
            opened++;
            take(opened - 1, phase, length);
            return true;
        }

        private void take(int roll, int place, int length) {
            used[roll] = place + length;
            cutRoll = roll;
            cutPlace = place;
        }

        /** The FEWEST rolls, none of whose PIECES is too LONG; NONE if there are too many PIECES to tell them. */
        int fewestFor(Layout layout) {
            if (layout == null || layout.pieces > MOST_TOLD) {
                return NONE;
            }
            for (int piece = 0; piece < layout.pieces; piece++) {
                longs[piece] = layout.longs[piece];
                phases[piece] = layout.phases[piece];
            }
            int sets = 1 << layout.pieces;
            // Of none, as of a roll ahead of the first one from which all is cut.
            leastOf[0] = paper.roll;
            for (int set = 1; set < sets; set++) {
                leastOf[set] = leastFor(set, layout.pieces);
            }
            return leastOf[sets - 1] / ROLL;
        }

        /** The least rolls, and of like ones the least cut from the last: with less cut, no PIECE fits later. */
        private int leastFor(int set, int pieces) {
            int least = (pieces + 1) * ROLL;
            for (int last = 0; last < pieces; last++) {
                if ((set >> last & 1) == 1) {
                    least = Math.min(least, behind(leastOf[set & ~(1 << last)], last));
                }
            }
            return least;
        }

        private int behind(int ahead, int piece) {
            int rolls = ahead / ROLL;
            int place = paper.placeBehind(ahead % ROLL, phases[piece]);
            if (place + longs[piece] <= paper.roll) {
                return rolls * ROLL + place + longs[piece];
            }
            return (rolls + 1) * ROLL + phases[piece] + longs[piece];
        }
    }

    /** FAULTS of one ROOM with one PAPER. */
    private static final class Judge {
        static final int MOST_STEP = 50;
        static final int BROKEN_STAND = 100;
        private static final int NARROW_STRIP = 50;
        private static final int LEAST_WIDTH = 10;
        private static final int LEAST_FROM_SIDE = 5;
        /** Above all FAULTS that can be. */
        private static final int ENDLESS = 1000000;
        private static final int PAIRS = 1 << 2 * Room.MOST_STANDS;

        private Room room;
        private Paper paper;
        private int round;
        private boolean seamIsBad;
        /** The stands (bits) that would have a whole figure, by the OFFSET of their STRIP. */
        private final int[] wholeWith;
        /** The best BASE for stands in even and in odd STRIPS (a pair of bits), by one search; NONE until it's asked for. */
        private final int[] baseFor;
        int bestStart;
        int bestBase;
        int bestFaults;

        Judge() {
            wholeWith = new int[MOST_REPEAT];
            baseFor = new int[PAIRS];
        }

        void look(Room told, Paper chosen) {
            room = told;
            paper = chosen;
            round = room.walls.round;
            boolean uneven = rest(round, paper.width) != 0;
            boolean odd = paper.drop == Paper.HALF && (paper.stripsFor(round) & 1) == 1;
            seamIsBad = paper.drop != Paper.FREE && (uneven || odd);
            for (int offset = 0; offset < paper.repeat && offset < MOST_REPEAT; offset++) {
                wholeWith[offset] = wholeFigures(offset);
            }
        }

        int seamAt(int start) {
            if (!seamIsBad) {
                return 0;
            }
            int wall = room.walls.wallAt(start);
            int x = start - room.walls.beginOf(wall);
            int opening = room.openingWith(wall, x, x);
            return room.walls.heightOn(wall, x) - (room.upperOf(opening) - room.lowerOf(opening));
        }

        int narrowness() {
            int last = round - (paper.stripsFor(round) - 1) * paper.width;
            return last < LEAST_WIDTH ? NARROW_STRIP : 0;
        }

        /** The stands (bits) that aren't WHOLE. */
        int brokenStands(int start, int base) {
            int whole = wholeStands(standsWithin(start, 0), standsWithin(start, 1), base);
            return (1 << room.stands) - 1 & ~whole;
        }

        private int wholeStands(int inEven, int inOdd, int base) {
            int evenOffset = paper.offsetOf(0, base);
            int oddOffset = paper.offsetOf(1, base);
            if (evenOffset >= MOST_REPEAT || oddOffset >= MOST_REPEAT) {
                return 0;
            }
            return inEven & wholeWith[evenOffset] | inOdd & wholeWith[oddOffset];
        }

        /** BEST, by steps. */
        void search(int step) {
            bestFaults = ENDLESS;
            if (step <= 0) {
                return;
            }
            for (int pair = 0; pair < PAIRS; pair++) {
                baseFor[pair] = NONE;
            }
            for (int start = 0; start < round; start += step) {
                judgeStart(start, step);
            }
        }

        /** The BASE doesn't change seam and width, so it's the one with the most WHOLE stands. */
        private void judgeStart(int start, int step) {
            int ahead = seamAt(start) + narrowness();
            if (ahead >= bestFaults) {
                return;
            }
            int inEven = standsWithin(start, 0);
            int inOdd = standsWithin(start, 1);
            int pair = inEven << Room.MOST_STANDS | inOdd;
            if (!isFrom(0, pair, PAIRS - 1)) {
                return;
            }
            if (baseFor[pair] == NONE) {
                baseFor[pair] = firstBest(inEven, inOdd, step);
            }
            int whole = wholeStands(inEven, inOdd, baseFor[pair]);
            int together = ahead + BROKEN_STAND * (room.stands - Integer.bitCount(whole));
            if (together < bestFaults) {
                bestStart = start;
                bestBase = baseFor[pair];
                bestFaults = together;
            }
        }

        /** The first BASE with the most WHOLE stands. */
        private int firstBest(int inEven, int inOdd, int step) {
            int found = 0;
            int most = 0;
            for (int base = 0; base < paper.repeat && step > 0; base += step) {
                int whole = Integer.bitCount(wholeStands(inEven, inOdd, base));
                if (whole > most) {
                    found = base;
                    most = whole;
                }
            }
            return found;
        }

        /** The stands (bits) far enough from both sides, in STRIPS of odd numbers (1) or of even ones (0). */
        private int standsWithin(int start, int odd) {
            int within = 0;
            for (int stand = 0; stand < room.stands; stand++) {
                int far = rest(room.standPlace(stand) - start, round);
                int fromLeft = rest(far, paper.width);
                int stripBegin = far - fromLeft;
                int fromRight = Math.min(paper.width, round - stripBegin) - fromLeft;
                boolean farEnough = fromLeft >= LEAST_FROM_SIDE && fromRight >= LEAST_FROM_SIDE;
                if (farEnough && (paper.width > 0 && (stripBegin / paper.width & 1) == odd)) {
                    within |= 1 << stand;
                }
            }
            return within;
        }

        private int wholeFigures(int offset) {
            int whole = 0;
            for (int stand = 0; stand < room.stands; stand++) {
                int place = room.standPlace(stand);
                int wall = room.walls.wallAt(place);
                int x = place - room.walls.beginOf(wall);
                if (paper.drop == Paper.FREE ? standsClear(stand, wall, x) : figureIsWhole(stand, wall, x, offset)) {
                    whole |= 1 << stand;
                }
            }
            return whole;
        }

        private boolean standsClear(int stand, int wall, int x) {
            int y = room.standY(stand);
            // The ends of an OPENING count here, so one is looked for about the height.
            return !room.opensAt(wall, x, y - 1, y + 1);
        }

        private boolean figureIsWhole(int stand, int wall, int x, int offset) {
            int high = room.walls.heightOn(wall, x);
            int depth = high - room.standY(stand);
            int belowTop = rest(depth + offset - paper.figureFrom, paper.repeat);
            int top = depth - belowTop;
            int bottom = top + paper.figureHigh;
            if (depth < 0 || belowTop >= paper.figureHigh || top < 0 || bottom > high) {
                return false;
            }
            return !room.opensAt(wall, x, high - bottom, high - top);
        }
    }

    /** BATCHES, and how a ROOM's WALLS share them. */
    private static final class Sharing {
        private static final int MOST_BATCHES = 4;
        /** Above all corners that can be SEEN. */
        private static final int ENDLESS = 1000;

        int batches;
        private final int[] papers;
        private final int[] sizes;
        private Room room;
        private int paper;
        private int number;
        final int[] needs;
        private final boolean[] hidden;
        /** What each BATCH gives to the WALLS that have chosen; nothing, when no choice stands open. */
        private final int[] given;
        private final int[] chosen;
        final int[] picked;
        int fewestSeen;

        Sharing() {
            papers = new int[MOST_BATCHES];
            sizes = new int[MOST_BATCHES];
            needs = new int[Walls.MOST];
            hidden = new boolean[Walls.MOST];
            given = new int[MOST_BATCHES];
            chosen = new int[Walls.MOST];
            picked = new int[Walls.MOST];
        }

        int add(int ofPaper, int rolls) {
            if (batches >= MOST_BATCHES || !isFrom(1, rolls, 30)) {
                return NONE;
            }
            papers[batches] = ofPaper;
            sizes[batches] = rolls;
            batches++;
            return batches - 1;
        }

        void begin(Room told, int ofPaper) {
            room = told;
            paper = ofPaper;
            number = Math.min(Walls.MOST, room.walls.number);
            for (int wall = 0; wall < number; wall++) {
                hidden[wall] = room.doorAtCorner(wall);
            }
        }

        /** Shares as the needs of all WALLS ask; false if it can't be. */
        boolean share() {
            fewestSeen = ENDLESS;
            choose(0, 0);
            return fewestSeen != ENDLESS;
        }

        /** Goes through the BATCHES from the first on, so that of like ways the first is found first. */
        private void choose(int wall, int seen) {
            if (seen >= fewestSeen) {
                return;
            }
            if (wall >= number) {
                pick(seen);
                return;
            }
            for (int batch = 0; batch < batches; batch++) {
                if (papers[batch] == paper && given[batch] + needs[wall] <= sizes[batch]) {
                    chosen[wall] = batch;
                    given[batch] += needs[wall];
                    choose(wall + 1, wall == 0 ? seen : seen + seenBetween(wall - 1, wall));
                    given[batch] -= needs[wall];
                }
            }
        }

        private void pick(int seen) {
            int together = seen + seenBetween(number - 1, 0);
            if (together >= fewestSeen) {
                return;
            }
            fewestSeen = together;
            for (int wall = 0; wall < number; wall++) {
                picked[wall] = chosen[wall];
            }
        }

        private int seenBetween(int left, int right) {
            if (!isFrom(0, left, number - 1) || !isFrom(0, right, number - 1)) {
                return 0;
            }
            // With one WALL both are the same, so that its corner is none.
            return hidden[left] || chosen[left] == chosen[right] ? 0 : 1;
        }
    }

    /** A DAY, STRIP by STRIP. */
    private static final class Day {
        private static final int MOST_HANGERS = 2;

        private int hangers;
        private int soaking;
        private int bound;
        private boolean lazy;
        private int pasterFree;
        private final int[] hangerFree;
        int spoilt;

        Day() {
            hangerFree = new int[MOST_HANGERS];
        }

        boolean begin(int ofHangers, int times, int lazyOne) {
            soaking = times / 100;
            bound = times % 100;
            if (!isFrom(1, soaking, 30) || !isFrom(0, bound, 60)) {
                return false;
            }
            if (!isFrom(1, ofHangers, MOST_HANGERS) || !isFrom(0, lazyOne, 1)) {
                return false;
            }
            hangers = ofHangers;
            lazy = lazyOne == 1;
            pasterFree = 0;
            spoilt = 0;
            for (int hanger = 0; hanger < MOST_HANGERS; hanger++) {
                hangerFree[hanger] = 0;
            }
            return true;
        }

        /** Pastes and hangs the next STRIP, which has PIECES so LONG together. */
        void take(int together) {
            if (together <= 0) {
                return;
            }
            int hanger = freeFirst();
            int pasting = 2 + together / 100;
            int begins = pasterFree;
            if (lazy) {
                begins = Math.max(begins, hangerFree[hanger] - soaking - pasting);
            }
            pasterFree = begins + pasting;
            int ready = pasterFree + soaking;
            int hung = Math.max(ready, hangerFree[hanger]);
            if (hung - ready > bound) {
                spoilt++;
            }
            hangerFree[hanger] = hung + 5 + together / 50;
        }

        int lastMinute() {
            return Math.max(hangerFree[0], hangerFree[1]);
        }

        private int freeFirst() {
            return hangers == MOST_HANGERS && hangerFree[1] < hangerFree[0] ? 1 : 0;
        }
    }
}
