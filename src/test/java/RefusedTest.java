import java.util.ArrayList;
import java.util.List;
import java.util.function.Consumer;
import java.util.function.Supplier;
import java.util.function.ToIntFunction;

/**
 * "What is refused changes nothing.": each call that can be refused is made on one of two objects that are alike; then both
 * are asked, and changed, and asked again in the same way, and must answer alike.
 */
public final class RefusedTest {
    private static final int LEAST = Integer.MIN_VALUE;
    private static final int MOST = Integer.MAX_VALUE;
    /** What a run of calls may have in all, so that no answer is free. */
    private static final int MOST_CALLS = 512;

    private static final String GOOD = "wall 100 200 200;wall 80 250 180;door 0 10 60 150;window 1 20 70 60 120;lean 0 9;stand 0 80 90;";

    private static final class Call {
        final String name;
        final ToIntFunction<HalfDrop> made;
        final int refusal;

        Call(String name, ToIntFunction<HalfDrop> made, int refusal) {
            this.name = name;
            this.made = made;
            this.refusal = refusal;
        }
    }

    private static final List<Call> CALLS = new ArrayList<>();

    public static void main(String[] args) {
        Check.sentence("What is refused changes nothing.");
        inState("new", RefusedTest::fresh, RefusedTest::refusedWhenNew);
        inState("with a fault", RefusedTest::withFault, RefusedTest::refusedWithFault);
        inState("not done", RefusedTest::notDone, RefusedTest::refusedWhenNotDone);
        inState("done", RefusedTest::done, RefusedTest::refusedWhenDone);
        inState("hung", RefusedTest::hung, RefusedTest::refusedWhenHung);
        inState("full", RefusedTest::full, RefusedTest::refusedWhenFull);
        inState("full texts", RefusedTest::fullText, RefusedTest::refusedWithFullText);
        inState("too long", RefusedTest::tooLong, RefusedTest::refusedWhenTooLong);
        Check.finish();
    }

    private static void inState(String state, Supplier<HalfDrop> made, Runnable refused) {
        CALLS.clear();
        always();
        refused.run();
        for (Call call : CALLS) {
            alike(state, made, call, RefusedTest::ask);
            alike(state, made, call, RefusedTest::changeAndAsk);
        }
    }

    private static void alike(String state, Supplier<HalfDrop> made, Call call, Consumer<Answers> later) {
        HalfDrop refusing = made.get();
        Check.due(state + ": " + call.name, call.refusal, call.made.applyAsInt(refusing));
        Answers behind = new Answers(refusing);
        Answers without = new Answers(made.get());
        later.accept(behind);
        later.accept(without);
        Check.due("calls that may be made", true, behind.size < MOST_CALLS - 100);
        for (int i = 0; i < without.size; i++) {
            Check.due(state + ": answer " + i + " behind " + call.name, without.all[i], behind.all[i]);
        }
    }

    /** What an object answered, call by call. */
    private static final class Answers {
        final HalfDrop x;
        final int[] all = new int[MOST_CALLS];
        int size;

        Answers(HalfDrop x) {
            this.x = x;
        }

        void add(int answer) {
            all[size] = answer;
            size++;
        }

        void add(boolean answer) {
            add(answer ? 1 : 0);
        }
    }

    // ---- states

    private static HalfDrop fresh() {
        return new HalfDrop();
    }

    private static HalfDrop withFault() {
        HalfDrop x = Check.withRoom(GOOD);
        x.paper(50, 60, 1, 1000, 10020);
        x.done(0, 0, 10, 20);
        Check.feed(x, GOOD + "wall 49");
        return x;
    }

    private static HalfDrop notDone() {
        HalfDrop x = Check.withRoom(GOOD);
        x.paper(50, 60, 1, 1000, 10020);
        x.batch(0, 10);
        x.keep(0, 299, 7);
        x.image(0);
        Check.feed(x, GOOD);
        return x;
    }

    private static HalfDrop done() {
        HalfDrop x = notDone();
        x.trim(7);
        x.done(0, 0, 10, 20);
        x.hang(0, 1);
        x.image(1);
        return x;
    }

    private static HalfDrop hung() {
        HalfDrop x = done();
        x.hang(0, 3);
        return x;
    }

    private static HalfDrop full() {
        HalfDrop x = new HalfDrop();
        for (int room = 0; room < 6; room++) {
            Check.addRoom(x, "wall 10" + room + " 200 200;" + "door 0 0 50 100;");
        }
        for (int paper = 0; paper < 4; paper++) {
            x.paper(50 + paper, 60, paper % 3, 400, 1);
        }
        for (int batch = 0; batch < 4; batch++) {
            x.batch(batch & 1, 3 + batch);
        }
        for (int end = 0; end < 10; end++) {
            x.keep(end & 3, 200 + end, end);
        }
        for (int room = 0; room < 6; room++) {
            x.done(room, room & 3, room, room);
            x.hang(room, x.of(room, 7));
        }
        x.image(0);
        x.image(1);
        x.image(2);
        Check.feed(x, GOOD);
        return x;
    }

    private static HalfDrop fullText() {
        HalfDrop x = Check.withRoom(GOOD);
        Check.feed(x, " ".repeat(400 - GOOD.length()) + GOOD);
        return x;
    }

    private static HalfDrop tooLong() {
        HalfDrop x = Check.withRoom("wall 100 400 400;door 0 0 50 300;");
        x.paper(50, 60, 0, 300, 1);
        x.batch(0, 30);
        x.done(0, 0, 0, 0);
        return x;
    }

    // ---- calls that are refused

    private static void none(String name, ToIntFunction<HalfDrop> made) {
        CALLS.add(new Call(name, made, HalfDrop.NONE));
    }

    private static void refused(String name, ToIntFunction<HalfDrop> made) {
        CALLS.add(new Call(name, made, 0));
    }

    private static int number(boolean answer) {
        return answer ? 1 : 0;
    }

    /** What is refused in each state. */
    private static void always() {
        refused("end(-1)", x -> number(x.end(-1)));
        refused("end(401)", x -> number(x.end(401)));
        refused("end(most)", x -> number(x.end(MOST)));
        refused("trim(-1)", x -> number(x.trim(-1)));
        refused("trim(21)", x -> number(x.trim(21)));
        refused("image(-1)", x -> number(x.image(-1)));
        refused("image(3)", x -> number(x.image(3)));
        refused("on(-1)", x -> number(x.on(-1)));
        refused("on(3)", x -> number(x.on(3)));
        none("count(-1)", x -> x.count(-1));
        none("count(6)", x -> x.count(6));
        int[] rooms = {-1, 6, LEAST, MOST};
        for (int room : rooms) {
            ofRoom(room);
        }
        papersThatCantBe();
        partsThatCantBe();
    }

    private static void papersThatCantBe() {
        int[][] papers = {{19, 60, 0, 1000, 1}, {121, 60, 0, 1000, 1}, {50, 9, 0, 1000, 1}, {50, 121, 0, 1000, 1}, {50, 60, -1, 1000, 1},
            {50, 60, 3, 1000, 1}, {50, 60, 0, 299, 1}, {50, 60, 0, 2001, 1}, {50, 60, 0, 1000, 0}, {50, 60, 0, 1000, 61}, {50, 60, 0, 1000, 60001},
            {50, 60, 0, 1000, -1}};
        for (int[] p : papers) {
            none("paper(" + p[0] + ", " + p[1] + ", " + p[2] + ", " + p[3] + ", " + p[4] + ")", x -> x.paper(p[0], p[1], p[2], p[3], p[4]));
        }
        int[] numbers = {-1, 4, LEAST, MOST};
        for (int paper : numbers) {
            none("done(0, " + paper + ", 0, 0)", x -> x.done(0, paper, 0, 0));
            none("best(0, " + paper + ", 1, 0)", x -> x.best(0, paper, 1, 0));
            none("batch(" + paper + ", 1)", x -> x.batch(paper, 1));
            none("all(" + paper + ")", x -> x.all(paper));
            none("keep(" + paper + ", 1, 0)", x -> x.keep(paper, 1, 0));
        }
    }

    /** Of the first room and paper, whether they are there or not. */
    private static void partsThatCantBe() {
        none("of(0, -1)", x -> x.of(0, -1));
        none("of(0, 10)", x -> x.of(0, 10));
        none("height(0, -1)", x -> x.height(0, -1));
        none("height(0, 4800)", x -> x.height(0, 4800));
        none("done(0, 0, -1, 0)", x -> x.done(0, 0, -1, 0));
        none("done(0, 0, 4800, 0)", x -> x.done(0, 0, 4800, 0));
        none("done(0, 0, 0, -1)", x -> x.done(0, 0, 0, -1));
        none("done(0, 0, 0, 60)", x -> x.done(0, 0, 0, 60));
        none("strip(0, -1, 0)", x -> x.strip(0, -1, 0));
        none("strip(0, 240, 0)", x -> x.strip(0, 240, 0));
        none("strip(0, 0, -1)", x -> x.strip(0, 0, -1));
        none("strip(0, 0, 6)", x -> x.strip(0, 0, 6));
        none("piece(0, -1, 0)", x -> x.piece(0, -1, 0));
        none("piece(0, 480, 0)", x -> x.piece(0, 480, 0));
        none("piece(0, 0, -1)", x -> x.piece(0, 0, -1));
        none("piece(0, 0, 7)", x -> x.piece(0, 0, 7));
        none("rolls(0, -1)", x -> x.rolls(0, -1));
        none("rolls(0, 3)", x -> x.rolls(0, 3));
        none("left(0, -1, 0)", x -> x.left(0, -1, 0));
        none("left(0, 480, 0)", x -> x.left(0, 480, 0));
        none("left(0, 0, -1)", x -> x.left(0, 0, -1));
        none("left(0, 0, 2)", x -> x.left(0, 0, 2));
        none("faults(0, -1)", x -> x.faults(0, -1));
        none("faults(0, 4)", x -> x.faults(0, 4));
        none("best(0, 0, 0, 0)", x -> x.best(0, 0, 0, 0));
        none("best(0, 0, 51, 0)", x -> x.best(0, 0, 51, 0));
        none("best(0, 0, 1, -1)", x -> x.best(0, 0, 1, -1));
        none("best(0, 0, 1, 3)", x -> x.best(0, 0, 1, 3));
        none("shown(0, -1)", x -> x.shown(0, -1));
        none("shown(0, 128)", x -> x.shown(0, 128));
        CALLS.add(new Call("run(0, -1, 0)", x -> x.run(0, -1, 0), HalfDrop.VOID));
        CALLS.add(new Call("run(0, 128, 0)", x -> x.run(0, 128, 0), HalfDrop.VOID));
        CALLS.add(new Call("run(0, 0, -1)", x -> x.run(0, 0, -1), HalfDrop.VOID));
        CALLS.add(new Call("run(0, 0, 8)", x -> x.run(0, 0, 8), HalfDrop.VOID));
        none("batch(0, 0)", x -> x.batch(0, 0));
        none("batch(0, 31)", x -> x.batch(0, 31));
        none("shared(0, -2)", x -> x.shared(0, -2));
        none("shared(0, 8)", x -> x.shared(0, 8));
        none("own(0, -1)", x -> x.own(0, -1));
        none("own(0, 8)", x -> x.own(0, 8));
        none("keep(0, 0, 0)", x -> x.keep(0, 0, 0));
        none("keep(0, 2001, 0)", x -> x.keep(0, 2001, 0));
        none("keep(0, 1, -1)", x -> x.keep(0, 1, -1));
        none("keep(0, 1, 60)", x -> x.keep(0, 1, 60));
        none("mended(0, -1)", x -> x.mended(0, -1));
        none("mended(0, 240)", x -> x.mended(0, 240));
        none("border(0, -1, 50)", x -> x.border(0, -1, 50));
        none("border(0, 401, 50)", x -> x.border(0, 401, 50));
        none("border(0, 0, 49)", x -> x.border(0, 0, 49));
        none("border(0, 0, 2001)", x -> x.border(0, 0, 2001));
        int[][] days = {{0, 1000, 0, 0}, {3, 1000, 0, 0}, {1, 99, 0, 0}, {1, 3100, 0, 0}, {1, 1061, 0, 0}, {1, 1000, -1, 0}, {1, 1000, 2, 0},
            {1, 1000, 0, -1}, {1, 1000, 0, 2}, {1, -1000, 0, 0}};
        for (int[] d : days) {
            none("day(0, " + d[0] + ", " + d[1] + ", " + d[2] + ", " + d[3] + ")", x -> x.day(0, d[0], d[1], d[2], d[3]));
        }
        none("hang(0, 0)", x -> x.hang(0, 0));
        none("hang(0, -1)", x -> x.hang(0, -1));
        none("hang(0, 241)", x -> x.hang(0, 241));
        none("hang(0, most)", x -> x.hang(0, MOST));
        none("hang(0, least)", x -> x.hang(0, LEAST));
    }

    /** Everything of a room that isn't there. */
    private static void ofRoom(int room) {
        none("of(" + room + ", 0)", x -> x.of(room, 0));
        none("height(" + room + ", 0)", x -> x.height(room, 0));
        none("best(" + room + ", 0, 1, 0)", x -> x.best(room, 0, 1, 0));
        none("done(" + room + ", 0, 0, 0)", x -> x.done(room, 0, 0, 0));
        none("shown(" + room + ", 0)", x -> x.shown(room, 0));
        CALLS.add(new Call("run(" + room + ", 0, 0)", x -> x.run(room, 0, 0), HalfDrop.VOID));
        none("cuts(" + room + ")", x -> x.cuts(room));
        none("border(" + room + ", 0, 50)", x -> x.border(room, 0, 50));
        ofDoneRoom(room);
    }

    /** Everything of a room that isn't done. */
    private static void ofDoneRoom(int room) {
        for (int what = 4; what < 10; what++) {
            int asked = what;
            none("of(" + room + ", " + what + ")", x -> x.of(room, asked));
        }
        none("strip(" + room + ", 0, 0)", x -> x.strip(room, 0, 0));
        none("piece(" + room + ", 0, 0)", x -> x.piece(room, 0, 0));
        none("piece(" + room + ", 0, 5)", x -> x.piece(room, 0, 5));
        none("rolls(" + room + ", 0)", x -> x.rolls(room, 0));
        none("rolls(" + room + ", 1)", x -> x.rolls(room, 1));
        none("left(" + room + ", 0, 0)", x -> x.left(room, 0, 0));
        none("faults(" + room + ", 0)", x -> x.faults(room, 0));
        none("shared(" + room + ", -1)", x -> x.shared(room, -1));
        none("shared(" + room + ", 0)", x -> x.shared(room, 0));
        none("own(" + room + ", 0)", x -> x.own(room, 0));
        none("mended(" + room + ", 0)", x -> x.mended(room, 0));
        none("day(" + room + ", 1, 1000, 0, 0)", x -> x.day(room, 1, 1000, 0, 0));
        none("hang(" + room + ", 1)", x -> x.hang(room, 1));
    }

    private static void refusedWhenNew() {
        refused("end(1)", x -> number(x.end(1)));
        none("room()", x -> x.room());
        ofRoom(0);
        none("batch(0, 1)", x -> x.batch(0, 1));
        none("all(0)", x -> x.all(0));
        none("keep(0, 1, 0)", x -> x.keep(0, 1, 0));
        for (int k = 0; k < 3; k++) {
            int image = k;
            refused("on(" + k + ")", x -> number(x.on(image)));
        }
    }

    private static void refusedWithFault() {
        none("room()", x -> x.room());
        refused("end beyond the text", x -> number(x.end(GOOD.length() + 8)));
        ofRoom(1);
        none("a second paper", x -> x.done(0, 1, 0, 0));
    }

    private static void refusedWhenNotDone() {
        ofDoneRoom(0);
        ofRoom(1);
        refused("on(1)", x -> number(x.on(1)));
        refused("on(2)", x -> number(x.on(2)));
        none("height behind the round", x -> x.height(0, 180));
        none("start behind the round", x -> x.done(0, 0, 180, 0));
        none("cut at the last corner", x -> x.shown(0, 2));
        CALLS.add(new Call("run of a third wall", x -> x.run(0, 0, 2), HalfDrop.VOID));
    }

    private static void refusedWhenDone() {
        ofRoom(1);
        refused("on(2)", x -> number(x.on(2)));
        none("start behind the round", x -> x.done(0, 0, 180, 0));
        none("strip behind the last", x -> x.strip(0, 4, 0));
        none("piece behind the last", x -> x.piece(0, x.of(0, 8), 0));
        none("roll behind the last", x -> x.left(0, x.rolls(0, 2), 0));
        none("a third wall's own", x -> x.own(0, 2));
        none("a third wall's batch", x -> x.shared(0, 2));
        none("mended behind the last strip", x -> x.mended(0, 4));
        none("mended with an end 1 too short", x -> x.mended(0, 1));
        none("hang 4 of 3", x -> x.hang(0, 4));
    }

    private static void refusedWhenHung() {
        none("hang one more", x -> x.hang(0, 1));
        none("start behind the round", x -> x.done(0, 0, 180, 0));
        ofRoom(1);
    }

    private static void refusedWhenFull() {
        none("a 7th room", x -> x.room());
        none("a 5th paper", x -> x.paper(50, 60, 0, 400, 1));
        none("a 5th batch", x -> x.batch(0, 1));
        none("an 11th end", x -> x.keep(0, 1, 0));
        none("hang one more", x -> x.hang(0, 1));
        none("hang one more in the last room", x -> x.hang(5, 1));
        none("shared, of a paper without batches", x -> x.shared(2, -1));
        none("start behind the round", x -> x.done(5, 0, 105, 0));
    }

    private static void refusedWithFullText() {
        none("feed behind 400", x -> x.feed(0x20202020, 0x20202020, 0x20202020, 0x20202020, 0x20202020));
        none("feed of wild bytes behind 400", x -> x.feed(-1, LEAST, MOST, 0, 7));
        ofRoom(1);
    }

    private static void refusedWhenTooLong() {
        for (int what = 0; what < 3; what++) {
            int asked = what;
            none("rolls(0, " + what + ")", x -> x.rolls(0, asked));
        }
        none("left(0, 0, 0)", x -> x.left(0, 0, 0));
        none("piece(0, 0, 5)", x -> x.piece(0, 0, 5));
        none("piece(0, 0, 6)", x -> x.piece(0, 0, 6));
        none("own(0, 0)", x -> x.own(0, 0));
        none("shared(0, -1)", x -> x.shared(0, -1));
        none("all(0)", x -> x.all(0));
        none("mended(0, 0)", x -> x.mended(0, 0));
    }

    // ---- what both are asked

    private static void ask(Answers a) {
        a.add(a.x.fault());
        for (int what = 0; what < 6; what++) {
            a.add(a.x.count(what));
        }
        askRoom(a, 0);
        askRoom(a, 1);
        askRoom(a, 5);
        for (int paper = 0; paper < 4; paper++) {
            a.add(a.x.all(paper));
            a.add(a.x.best(0, paper, 7, 0));
            a.add(a.x.best(0, paper, 7, 1));
            a.add(a.x.best(0, paper, 7, 2));
        }
    }

    private static void askRoom(Answers a, int room) {
        HalfDrop x = a.x;
        for (int what = 0; what < 10; what++) {
            a.add(x.of(room, what));
        }
        a.add(x.height(room, 33));
        for (int strip = 0; strip < 3; strip++) {
            for (int what = 0; what < 6; what++) {
                a.add(x.strip(room, strip, what));
            }
            a.add(x.mended(room, strip));
        }
        for (int piece = 0; piece < 3; piece++) {
            for (int what = 1; what < 7; what++) {
                a.add(x.piece(room, piece, what));
            }
        }
        for (int what = 0; what < 3; what++) {
            a.add(x.rolls(room, what));
            a.add(x.shared(room, what - 1));
        }
        a.add(x.left(room, 0, 0));
        a.add(x.left(room, 0, 1));
        for (int what = 0; what < 4; what++) {
            a.add(x.faults(room, what));
        }
        a.add(x.shown(room, 1));
        a.add(x.run(room, 0, 1));
        a.add(x.cuts(room));
        a.add(x.own(room, 0));
        a.add(x.own(room, 1));
        a.add(x.border(room, 120, 77));
        a.add(x.day(room, 1, 1005, 0, 0));
        a.add(x.day(room, 1, 1005, 0, 1));
        a.add(x.day(room, 2, 305, 1, 0));
    }

    /** What comes next has the next number, and images are as they were. */
    private static void changeAndAsk(Answers a) {
        HalfDrop x = a.x;
        a.add(x.room());
        a.add(x.feed(0x77616c6c, 0x20353020, 0x31303020, 0x3130303b, 0x20202020));
        a.add(x.room());
        a.add(x.paper(33, 44, 1, 555, 1));
        a.add(x.batch(0, 2));
        a.add(x.keep(0, 222, 3));
        a.add(x.hang(0, 1));
        askRoom(a, 0);
        for (int k = 0; k < 3; k++) {
            a.add(x.on(k));
            for (int what = 4; what < 10; what++) {
                a.add(x.of(0, what));
                a.add(x.of(5, what));
            }
            a.add(x.count(4));
            a.add(x.mended(0, 0));
        }
        a.add(x.done(0, 0, 3, 4));
        a.add(x.done(1, 1, 5, 6));
        a.add(x.image(2));
        a.add(x.trim(3));
        a.add(x.end(0));
        a.add(x.on(2));
        askRoom(a, 0);
        askRoom(a, 1);
        for (int what = 0; what < 6; what++) {
            a.add(x.count(what));
        }
    }
}
