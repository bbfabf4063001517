import java.util.ArrayList;
import java.util.HashMap;
import java.util.List;
import java.util.Map;

/**
 * The document once more, in the plainest words and by other ways than the program: whatever can be tried is tried.
 * ModelTest holds the program against it.
 */
final class Model {
    static final int NONE = -1;

    record Wall(int begin, int length, int left, int right) {
        int height(int x) {
            return left + (int) Math.floor((right - left) * (double) x / length);
        }
    }

    record Opening(boolean door, int wall, int from, int to, int lower, int upper) {
        boolean has(Spot spot) {
            return spot.wall == wall && spot.x >= from && spot.x <= to;
        }
    }

    record Stand(int wall, int x, int y) {
    }

    record Spot(int wall, int x) {
    }

    record Paper(int width, int repeat, int drop, int roll, int from, int high) {
    }

    record Done(int paper, int start, int base) {
    }

    record Piece(int strip, int from, int to, int length, int phase) {
    }

    record Strip(int begin, int width, int tall, int offset, int firstPiece, List<Piece> pieces) {
    }

    record End(int paper, int length, int phase) {
    }

    record Batch(int paper, int rolls) {
    }

    static final class Room {
        final List<Wall> walls = new ArrayList<>();
        final List<Opening> openings = new ArrayList<>();
        final List<Stand> stands = new ArrayList<>();
        final Map<Integer, Integer> leans = new HashMap<>();

        int round() {
            return walls.stream().mapToInt(Wall::length).sum();
        }

        Spot rightSpot(int place) {
            int p = Math.floorMod(place, round());
            for (int w = 0; w < walls.size(); w++) {
                if (p >= walls.get(w).begin && p < walls.get(w).begin + walls.get(w).length) {
                    return new Spot(w, p - walls.get(w).begin);
                }
            }
            throw new IllegalStateException();
        }

        Spot leftSpot(int place) {
            Spot spot = rightSpot(place);
            if (spot.x > 0) {
                return spot;
            }
            int wall = (spot.wall + walls.size() - 1) % walls.size();
            return new Spot(wall, walls.get(wall).length);
        }

        int height(Spot spot) {
            return walls.get(spot.wall).height(spot.x);
        }
    }

    record Image(Map<Integer, Done> done, Map<Integer, Integer> hung, List<End> ends) {
    }

    private final StringBuilder text = new StringBuilder();
    private final List<Room> rooms = new ArrayList<>();
    private final List<Paper> papers = new ArrayList<>();
    private final List<Batch> batches = new ArrayList<>();
    private Map<Integer, Done> done = new HashMap<>();
    private Map<Integer, Integer> hung = new HashMap<>();
    private List<End> ends = new ArrayList<>();
    private final Image[] images = new Image[3];
    private int trim = 5;
    private Room reading;

    int feed(int a, int b, int c, int d, int e) {
        if (text.length() + 20 > 400) {
            return NONE;
        }
        for (int number : new int[] {a, b, c, d, e}) {
            text.append((char) (number >> 24 & 255)).append((char) (number >> 16 & 255));
            text.append((char) (number >> 8 & 255)).append((char) (number & 255));
        }
        return text.length();
    }

    boolean end(int n) {
        if (n < 0 || n > text.length()) {
            return false;
        }
        text.setLength(n);
        return true;
    }

    // ---- the text, read sign by sign

    private int at;

    private void blanks() {
        while (at < text.length() && " \n".indexOf(text.charAt(at)) >= 0) {
            at++;
        }
    }

    private static final class Fault extends Exception {
        private static final long serialVersionUID = 1L;
        final int place;

        Fault(int place) {
            super(null, null, false, false);
            this.place = place;
        }
    }

    private String take(String signs) {
        blanks();
        int to = at;
        while (to < text.length() && signs.indexOf(text.charAt(to)) >= 0) {
            to++;
        }
        String taken = text.substring(at, to);
        return taken;
    }

    private int number(int least, int most) throws Fault {
        String digits = take("0123456789");
        if (digits.isEmpty()) {
            throw new Fault(at);
        }
        java.math.BigInteger value = new java.math.BigInteger(digits);
        if (value.compareTo(java.math.BigInteger.valueOf(least)) < 0 || value.compareTo(java.math.BigInteger.valueOf(most)) > 0) {
            throw new Fault(at);
        }
        at += digits.length();
        return value.intValue();
    }

    private boolean sign(char sign) {
        blanks();
        if (at < text.length() && text.charAt(at) == sign) {
            at++;
            return true;
        }
        return false;
    }

    private void over() throws Fault {
        if (!sign(';')) {
            throw new Fault(at);
        }
    }

    private void line() throws Fault {
        String word = take("abcdefghijklmnopqrstuvwxyz");
        boolean opening = word.equals("door") || word.equals("window");
        boolean known = opening || word.equals("wall") || word.equals("lean") || word.equals("stand");
        if (!known || word.equals("wall") && reading.walls.size() == 8 || opening && reading.openings.size() == 8
            || word.equals("stand") && reading.stands.size() == 4) {
            throw new Fault(at);
        }
        at += word.length();
        if (word.equals("wall")) {
            int length = number(50, 600);
            int left = number(100, 400);
            int right = number(100, 400);
            over();
            reading.walls.add(new Wall(reading.round(), length, left, right));
            return;
        }
        blanks();
        int placeOfWall = at;
        int w = number(0, reading.walls.size() - 1);
        Wall wall = reading.walls.get(w);
        int lesser = Math.min(wall.left, wall.right);
        if (opening) {
            int from = number(0, wall.length);
            int to = number(from + 1, wall.length);
            int lower = word.equals("door") ? 0 : number(1, 300);
            int upper = word.equals("door") ? number(50, lesser - 1) : number(lower + 1, lesser - 1);
            over();
            reading.openings.add(new Opening(word.equals("door"), w, from, to, lower, upper));
        } else if (word.equals("lean")) {
            if (reading.leans.containsKey(w)) {
                throw new Fault(placeOfWall);
            }
            boolean below = sign('-');
            int m = number(0, 50);
            over();
            reading.leans.put(w, below ? -m : m);
        } else {
            int x = number(0, wall.length);
            int y = number(0, 400);
            over();
            reading.stands.add(new Stand(w, x, y));
        }
    }

    int fault() {
        reading = new Room();
        at = 0;
        try {
            blanks();
            while (at < text.length()) {
                line();
                blanks();
            }
        } catch (Fault fault) {
            return fault.place;
        }
        return reading.walls.isEmpty() ? text.length() : NONE;
    }

    int room() {
        if (rooms.size() == 6 || fault() != NONE) {
            return NONE;
        }
        rooms.add(reading);
        text.setLength(0);
        return rooms.size() - 1;
    }

    private boolean isRoom(int room) {
        return room >= 0 && room < rooms.size();
    }

    private boolean isPaper(int paper) {
        return paper >= 0 && paper < papers.size();
    }

    int of(int room, int what) {
        if (!isRoom(room)) {
            return NONE;
        }
        Room r = rooms.get(room);
        if (what >= 0 && what <= 3) {
            return new int[] {r.walls.size(), r.openings.size(), r.round(), r.stands.size()}[what];
        }
        if (!done.containsKey(room) || what < 4 || what > 9) {
            return NONE;
        }
        Done d = done.get(room);
        return new int[] {d.paper, d.start, d.base, strips(room).size(), pieces(room).size(), hung.get(room)}[what - 4];
    }

    int height(int room, int place) {
        if (!isRoom(room) || place < 0 || place >= rooms.get(room).round()) {
            return NONE;
        }
        return rooms.get(room).height(rooms.get(room).rightSpot(place));
    }

    int paper(int width, int repeat, int drop, int roll, int figure) {
        if (width < 20 || width > 120 || repeat < 10 || repeat > 120 || drop < 0 || drop > 2 || roll < 300 || roll > 2000 || figure < 0) {
            return NONE;
        }
        int from = figure / 1000;
        int high = figure - 1000 * from;
        if (from >= repeat || high < 1 || high > repeat || papers.size() == 4) {
            return NONE;
        }
        papers.add(new Paper(width, repeat, drop, roll, from, high));
        return papers.size() - 1;
    }

    boolean trim(int t) {
        if (t < 0 || t > 20) {
            return false;
        }
        trim = t;
        return true;
    }

    int done(int room, int paper, int start, int base) {
        if (!isRoom(room) || !isPaper(paper) || start < 0 || start >= rooms.get(room).round() || base < 0 || base >= papers.get(paper).repeat) {
            return NONE;
        }
        done.put(room, new Done(paper, start, base));
        hung.put(room, 0);
        return strips(room).size();
    }

    // ---- strips and pieces

    private Paper paperOf(int room) {
        return papers.get(done.get(room).paper);
    }

    private List<Strip> strips(int room) {
        Done d = done.get(room);
        return strips(rooms.get(room), papers.get(d.paper), d.start, d.base);
    }

    private List<Strip> strips(Room r, Paper p, int start, int base) {
        List<Strip> strips = new ArrayList<>();
        int gone = 0;
        int pieces = 0;
        while (gone < r.round()) {
            int n = strips.size();
            int begin = (start + gone) % r.round();
            int width = Math.min(p.width, r.round() - gone);
            int offset = p.drop == 1 && n % 2 == 1 ? (base + p.repeat / 2) % p.repeat : base;
            Spot left = r.rightSpot(begin);
            Spot right = r.leftSpot(begin + width);
            int tall = Math.max(r.height(left), r.height(right));
            for (int k = 1; k < width; k++) {
                if (r.rightSpot(begin + k).x == 0) {
                    tall = Math.max(tall, Math.max(r.height(r.rightSpot(begin + k)), r.height(r.leftSpot(begin + k))));
                }
            }
            List<Piece> own = new ArrayList<>();
            Opening within = null;
            for (Opening o : r.openings) {
                if (within == null && o.has(left) && o.has(right)) {
                    within = o;
                }
            }
            if (within == null) {
                own.add(piece(p, n, offset, 0, tall));
            } else {
                own.add(piece(p, n, offset, 0, tall - within.upper));
                if (!within.door) {
                    own.add(piece(p, n, offset, tall - within.lower, tall));
                }
            }
            strips.add(new Strip(begin, width, tall, offset, pieces, own));
            pieces += own.size();
            gone += width;
        }
        return strips;
    }

    private Piece piece(Paper p, int strip, int offset, int from, int to) {
        int phase = p.drop == 2 ? 0 : Math.floorMod(offset + from - trim, p.repeat);
        return new Piece(strip, from, to, to - from + 2 * trim, phase);
    }

    private List<Piece> pieces(int room) {
        List<Piece> all = new ArrayList<>();
        strips(room).forEach(s -> all.addAll(s.pieces));
        return all;
    }

    int strip(int room, int strip, int what) {
        if (!done.containsKey(room) || strip < 0 || strip >= strips(room).size() || what < 0 || what > 5) {
            return NONE;
        }
        Strip s = strips(room).get(strip);
        return new int[] {s.begin, s.width, s.tall, s.offset, s.pieces.size(), s.firstPiece}[what];
    }

    int piece(int room, int piece, int what) {
        if (!done.containsKey(room) || piece < 0 || piece >= pieces(room).size() || what < 0 || what > 6) {
            return NONE;
        }
        Piece q = pieces(room).get(piece);
        if (what < 5) {
            return new int[] {q.strip, q.from, q.to, q.length, q.phase}[what];
        }
        List<int[]> cut = new ArrayList<>();
        if (firstFit(paperOf(room), pieces(room), cut) == null) {
            return NONE;
        }
        return cut.get(piece)[what - 5];
    }

    // ---- rolls

    private static int behind(Paper p, int used, int phase) {
        int place = used;
        while (p.drop != 2 && place % p.repeat != phase) {
            place++;
        }
        return place;
    }

    /** What is cut from each roll; null if there is none. Each piece's roll and place come into cut. */
    private static List<Integer> firstFit(Paper p, List<Piece> pieces, List<int[]> cut) {
        List<Integer> rolls = new ArrayList<>();
        for (Piece q : pieces) {
            if (behind(p, 0, q.phase) + q.length > p.roll) {
                return null;
            }
            int roll = 0;
            while (roll < rolls.size() && behind(p, rolls.get(roll), q.phase) + q.length > p.roll) {
                roll++;
            }
            if (roll == rolls.size()) {
                rolls.add(0);
            }
            int place = behind(p, rolls.get(roll), q.phase);
            rolls.set(roll, place + q.length);
            cut.add(new int[] {roll, place});
        }
        return rolls;
    }

    /** By sets of pieces that go into one roll in some order, and by all ways to part the pieces into such sets. */
    private static int fewest(Paper p, List<Piece> pieces) {
        int n = pieces.size();
        int endless = 1 << 20;
        int[] ends = new int[1 << n];
        for (int set = 1; set < 1 << n; set++) {
            ends[set] = endless;
            for (int i = 0; i < n; i++) {
                if ((set >> i & 1) == 1 && ends[set - (1 << i)] < endless) {
                    int to = behind(p, ends[set - (1 << i)], pieces.get(i).phase) + pieces.get(i).length;
                    ends[set] = Math.min(ends[set], to <= p.roll ? to : endless);
                }
            }
        }
        int[] fewest = new int[1 << n];
        for (int set = 1; set < 1 << n; set++) {
            fewest[set] = endless;
            for (int part = set; part > 0; part = part - 1 & set) {
                if (ends[part] < endless) {
                    fewest[set] = Math.min(fewest[set], fewest[set - part] + 1);
                }
            }
        }
        return fewest[(1 << n) - 1];
    }

    /** By all orders, each cut from one roll after the other. */
    private static int fewestByOrders(Paper p, List<Piece> pieces, int rolls, int used) {
        if (pieces.isEmpty()) {
            return rolls;
        }
        int least = Integer.MAX_VALUE;
        for (int i = 0; i < pieces.size(); i++) {
            List<Piece> rest = new ArrayList<>(pieces);
            Piece q = rest.remove(i);
            int to = behind(p, used, q.phase) + q.length;
            int got = to <= p.roll && rolls > 0
                ? fewestByOrders(p, rest, rolls, to)
                : fewestByOrders(p, rest, rolls + 1, behind(p, 0, q.phase) + q.length);
            least = Math.min(least, got);
        }
        return least;
    }

    int rolls(int room, int what) {
        if (!done.containsKey(room) || what < 0 || what > 2) {
            return NONE;
        }
        Paper p = paperOf(room);
        List<Piece> pieces = pieces(room);
        List<Integer> rolls = firstFit(p, pieces, new ArrayList<>());
        if (rolls == null) {
            return NONE;
        }
        if (what == 2) {
            return rolls.size();
        }
        if (what == 1) {
            return (int) Math.ceil(pieces.stream().mapToInt(Piece::length).sum() / (double) p.roll);
        }
        if (pieces.size() > 12) {
            return NONE;
        }
        return pieces.size() <= 6 ? fewestByOrders(p, pieces, 0, 0) : fewest(p, pieces);
    }

    int left(int room, int roll, int what) {
        if (!done.containsKey(room) || what < 0 || what > 1) {
            return NONE;
        }
        Paper p = paperOf(room);
        List<Integer> rolls = firstFit(p, pieces(room), new ArrayList<>());
        if (rolls == null || roll < 0 || roll >= rolls.size()) {
            return NONE;
        }
        int used = rolls.get(roll);
        return what == 0 ? p.roll - used : p.drop == 2 ? 0 : used % p.repeat;
    }

    // ---- faults

    private static int openFor(Room r, Spot spot) {
        for (Opening o : r.openings) {
            if (o.has(spot)) {
                return o.upper - o.lower;
            }
        }
        return 0;
    }

    private int seam(Room r, Paper p, List<Strip> strips, int start) {
        if (p.drop == 2) {
            return 0;
        }
        boolean bad = r.round() % p.width != 0 || p.drop == 1 && strips.size() % 2 != 0;
        Spot spot = r.rightSpot(start);
        return bad ? r.height(spot) - openFor(r, spot) : 0;
    }

    private static int narrow(List<Strip> strips) {
        return strips.get(strips.size() - 1).width < 10 ? 50 : 0;
    }

    private static boolean isWhole(Room r, Paper p, List<Strip> strips, Stand stand) {
        int place = (r.walls.get(stand.wall).begin + stand.x) % r.round();
        Spot spot = r.rightSpot(place);
        Strip in = null;
        for (Strip s : strips) {
            for (int k = 0; k < s.width; k++) {
                if ((s.begin + k) % r.round() == place) {
                    in = s;
                    if (k < 5 || s.width - k < 5) {
                        return false;
                    }
                }
            }
        }
        int high = r.height(spot);
        if (p.drop == 2) {
            for (Opening o : r.openings) {
                if (o.has(spot) && o.lower <= stand.y && stand.y <= o.upper) {
                    return false;
                }
            }
            return true;
        }
        int e = high - stand.y;
        // All figures of the strip, from the top of the paper on: one begins wherever the repeat is at F.
        for (int s = -p.repeat; s + p.high <= high; s++) {
            boolean begins = Math.floorMod(s + in.offset, p.repeat) == p.from;
            if (begins && s >= 0 && e >= 0 && s <= e && e < s + p.high) {
                for (Opening o : r.openings) {
                    for (int h = high - s - p.high; h < high - s; h++) {
                        if (o.has(spot) && h >= o.lower && h < o.upper) {
                            return false;
                        }
                    }
                }
                return true;
            }
        }
        return false;
    }

    private int[] faults(Room r, Paper p, int start, int base) {
        List<Strip> strips = strips(r, p, start, base);
        int bits = 0;
        for (int i = 0; i < r.stands.size(); i++) {
            bits |= isWhole(r, p, strips, r.stands.get(i)) ? 0 : 1 << i;
        }
        int seam = seam(r, p, strips, start);
        int narrow = narrow(strips);
        return new int[] {seam + narrow + 100 * Integer.bitCount(bits), seam, narrow, bits};
    }

    int faults(int room, int what) {
        if (!done.containsKey(room) || what < 0 || what > 3) {
            return NONE;
        }
        Done d = done.get(room);
        return faults(rooms.get(room), papers.get(d.paper), d.start, d.base)[what];
    }

    int best(int room, int paper, int s, int what) {
        if (!isRoom(room) || !isPaper(paper) || s < 1 || s > 50 || what < 0 || what > 2) {
            return NONE;
        }
        Room r = rooms.get(room);
        Paper p = papers.get(paper);
        int[] best = null;
        for (int start = 0; start < r.round(); start += s) {
            for (int base = 0; base < p.repeat; base += s) {
                int got = faults(r, p, start, base)[0];
                if (best == null || got < best[2]) {
                    best = new int[] {start, base, got};
                }
            }
        }
        return best[what];
    }

    // ---- leaning

    private static boolean canCut(Room r, int cuts) {
        return cuts >= 0 && cuts < Math.pow(2, r.walls.size() - 1);
    }

    private static int off(Room r, int corner) {
        int m = r.leans.getOrDefault(corner, 0);
        int by = Math.abs(m) * r.walls.get(corner).right / 100;
        return m < 0 ? -by : by;
    }

    /** RUN of each wall, and behind them what is shown at cuts. */
    private static int[] runs(Room r, int cuts) {
        int n = r.walls.size();
        int[] runs = new int[n + 1];
        for (int w = 1; w < n; w++) {
            int would = runs[w - 1] + off(r, w - 1);
            boolean cut = (cuts & 1 << w - 1) != 0;
            runs[w] = cut ? 0 : would;
            runs[n] += cut ? 2 * Math.abs(would) : 0;
        }
        return runs;
    }

    int shown(int room, int cuts) {
        if (!isRoom(room) || !canCut(rooms.get(room), cuts)) {
            return NONE;
        }
        int shown = 0;
        for (int run : runs(rooms.get(room), cuts)) {
            shown += Math.abs(run);
        }
        return shown;
    }

    int run(int room, int cuts, int wall) {
        if (!isRoom(room) || !canCut(rooms.get(room), cuts) || wall < 0 || wall >= rooms.get(room).walls.size()) {
            return Integer.MIN_VALUE;
        }
        return runs(rooms.get(room), cuts)[wall];
    }

    int cuts(int room) {
        if (!isRoom(room)) {
            return NONE;
        }
        List<Integer> all = new ArrayList<>();
        for (int cuts = 0; canCut(rooms.get(room), cuts); cuts++) {
            all.add(cuts);
        }
        all.sort((a, b) -> {
            int byShown = Integer.compare(shown(room, a), shown(room, b));
            int byNumber = Integer.compare(Integer.bitCount(a), Integer.bitCount(b));
            return byShown != 0 ? byShown : byNumber != 0 ? byNumber : Integer.compare(a, b);
        });
        return all.get(0);
    }

    // ---- batches

    int batch(int paper, int rolls) {
        if (!isPaper(paper) || rolls < 1 || rolls > 30 || batches.size() == 4) {
            return NONE;
        }
        batches.add(new Batch(paper, rolls));
        return batches.size() - 1;
    }

    int own(int room, int wall) {
        if (!done.containsKey(room) || wall < 0 || wall >= rooms.get(room).walls.size()) {
            return NONE;
        }
        List<Piece> own = new ArrayList<>();
        for (Strip s : strips(room)) {
            if (rooms.get(room).rightSpot(s.begin).wall == wall) {
                own.addAll(s.pieces);
            }
        }
        List<Integer> rolls = firstFit(paperOf(room), own, new ArrayList<>());
        return rolls == null ? NONE : rolls.size();
    }

    int shared(int room, int wall) {
        if (!done.containsKey(room) || wall < -1 || wall >= rooms.get(room).walls.size() || batches.isEmpty()) {
            return NONE;
        }
        Room r = rooms.get(room);
        int n = r.walls.size();
        int[] needs = new int[n];
        for (int w = 0; w < n; w++) {
            needs[w] = own(room, w);
            if (needs[w] == NONE) {
                return NONE;
            }
        }
        int k = batches.size();
        int all = (int) Math.round(Math.pow(k, n));
        int[] best = null;
        int fewest = Integer.MAX_VALUE;
        for (int code = 0; code < all; code++) {
            // The first wall is the highest digit, so that the codes come in the order asked for.
            int[] of = new int[n];
            for (int w = n - 1, rest = code; w >= 0; w--, rest /= k) {
                of[w] = rest % k;
            }
            int seen = canBe(room, needs, of) ? seen(r, of) : Integer.MAX_VALUE;
            if (seen < fewest) {
                fewest = seen;
                best = of;
            }
        }
        return best == null ? NONE : wall == -1 ? fewest : best[wall];
    }

    private boolean canBe(int room, int[] needs, int[] of) {
        int[] given = new int[4];
        for (int w = 0; w < of.length; w++) {
            given[of[w]] += needs[w];
            if (batches.get(of[w]).paper != done.get(room).paper || given[of[w]] > batches.get(of[w]).rolls) {
                return false;
            }
        }
        return true;
    }

    private static int seen(Room r, int[] of) {
        int n = of.length;
        int seen = 0;
        for (int w = 0; w < n && n > 1; w++) {
            int next = (w + 1) % n;
            boolean door = false;
            for (Opening o : r.openings) {
                door |= o.door && (o.wall == w && o.to == r.walls.get(w).length || o.wall == next && o.from == 0);
            }
            seen += of[w] != of[next] && !door ? 1 : 0;
        }
        return seen;
    }

    int all(int paper) {
        if (!isPaper(paper)) {
            return NONE;
        }
        List<Piece> all = new ArrayList<>();
        for (int room = 0; room < rooms.size(); room++) {
            if (done.containsKey(room) && done.get(room).paper == paper) {
                all.addAll(pieces(room));
            }
        }
        List<Integer> rolls = firstFit(papers.get(paper), all, new ArrayList<>());
        return rolls == null ? NONE : rolls.size();
    }

    // ---- ends

    int keep(int paper, int length, int phase) {
        if (!isPaper(paper) || length < 1 || length > 2000 || phase < 0 || phase >= papers.get(paper).repeat || ends.size() == 10) {
            return NONE;
        }
        ends.add(new End(paper, length, phase));
        return ends.size() - 1;
    }

    private boolean fits(int room, Piece q, End end) {
        Paper p = paperOf(room);
        if (end.paper != done.get(room).paper) {
            return false;
        }
        for (int in = 0; in + q.length <= end.length; in++) {
            if (p.drop == 2 || (end.phase + in) % p.repeat == q.phase) {
                return true;
            }
        }
        return false;
    }

    int mended(int room, int strip) {
        if (!done.containsKey(room) || strip < 0 || strip >= strips(room).size()) {
            return NONE;
        }
        List<Piece> pieces = strips(room).get(strip).pieces;
        for (int bits = 0; bits < 1 << ends.size(); bits++) {
            if (Integer.bitCount(bits) == pieces.size() && canMend(room, pieces, 0, bits)) {
                return bits;
            }
        }
        return NONE;
    }

    private boolean canMend(int room, List<Piece> pieces, int from, int bits) {
        if (from == pieces.size()) {
            return true;
        }
        for (int i = 0; i < ends.size(); i++) {
            if ((bits >> i & 1) == 1 && fits(room, pieces.get(from), ends.get(i)) && canMend(room, pieces, from + 1, bits & ~(1 << i))) {
                return true;
            }
        }
        return false;
    }

    int border(int room, int higher, int length) {
        if (!isRoom(room) || higher < 0 || higher > 400 || length < 50 || length > 2000) {
            return NONE;
        }
        int long_ = rooms.get(room).round();
        for (Opening o : rooms.get(room).openings) {
            long_ -= o.door && o.upper > higher ? o.to - o.from : 0;
        }
        return (int) Math.ceil(Math.max(0, long_) / (double) length);
    }

    // ---- days

    int day(int room, int hangers, int times, int lazy, int what) {
        if (!done.containsKey(room) || hangers < 1 || hangers > 2 || times < 100 || times > 3060 || times % 100 > 60 || lazy < 0 || lazy > 1
            || what < 0 || what > 1) {
            return NONE;
        }
        int soak = times / 100;
        int[] free = new int[hangers];
        int paster = 0;
        int spoilt = 0;
        int last = 0;
        List<Strip> strips = strips(room);
        for (Strip s : strips.subList(hung.get(room), strips.size())) {
            int together = s.pieces.stream().mapToInt(Piece::length).sum();
            int hanger = hangers == 2 && free[1] < free[0] ? 1 : 0;
            int begin = paster;
            while (lazy == 1 && begin + 2 + together / 100 + soak < free[hanger]) {
                begin++;
            }
            paster = begin + 2 + together / 100;
            int hang = paster + soak;
            int waits = 0;
            while (hang < free[hanger]) {
                hang++;
                waits++;
            }
            spoilt += waits > times % 100 ? 1 : 0;
            free[hanger] = hang + 5 + together / 50;
            last = Math.max(last, free[hanger]);
        }
        return what == 0 ? last : spoilt;
    }

    int hang(int room, int n) {
        if (!done.containsKey(room) || n <= 0 || (long) n + hung.get(room) > strips(room).size()) {
            return NONE;
        }
        hung.merge(room, n, Integer::sum);
        return hung.get(room);
    }

    boolean image(int k) {
        if (k < 0 || k > 2) {
            return false;
        }
        images[k] = new Image(new HashMap<>(done), new HashMap<>(hung), new ArrayList<>(ends));
        return true;
    }

    boolean on(int k) {
        if (k < 0 || k > 2 || images[k] == null) {
            return false;
        }
        done = new HashMap<>(images[k].done);
        hung = new HashMap<>(images[k].hung);
        ends = new ArrayList<>(images[k].ends);
        return true;
    }

    int count(int what) {
        int[] counts = {rooms.size(), papers.size(), trim, batches.size(), ends.size(), text.length()};
        return what < 0 || what > 5 ? NONE : counts[what];
    }
}
