import java.util.function.ToLongFunction;

/** Every refused call: its answer, its place in STATUS, and that nothing else is changed by it. */
final class RefusalTests {
    private static final int[] WILD = {Integer.MIN_VALUE, Integer.MIN_VALUE + 1, -100, -2, -1, 0, 1, 2, 3, 4, 5, 6, 7, 8,
        9, 10, 11, 12, 13, 20, 21, 30, 31, 40, 41, 60, 61, 99, 100, 127, 128, 999999, 1000000, Integer.MAX_VALUE - 1,
        Integer.MAX_VALUE};

    private RefusalTests() {
    }

    public static void main(String[] args) {
        Check.promise("refused as BAD");
        for (int v : new int[] {-1, 6, Integer.MIN_VALUE, Integer.MAX_VALUE}) {
            bad("seat kind " + v, x -> x.seat(v, 0, 0), -2);
            bad("canon kind " + v, x -> x.canon(v, 1), -2);
        }
        for (int v : new int[] {-1, 4, Integer.MIN_VALUE, Integer.MAX_VALUE}) {
            bad("seat trait " + v, x -> x.seat(0, v, 0), -2);
            bad("taken trait " + v, x -> x.taken(0, v), -2);
            bad("then trait " + v, x -> x.then(0, v, 1), -2);
            bad("when trait " + v, x -> x.when(0, v, 1), -2);
            bad("first trait " + v, x -> x.first(v, 0), -2);
            bad("place trait " + v, x -> x.place(0, v, 1, 0), -2);
            bad("wish trait " + v, x -> x.wish(0, v, 1), -2);
            bad("where trait " + v, x -> x.where(0, v, 1), -2);
        }
        noSuchCanon();
        noSuchSeat();
        outOfBounds();
        noAndFull();
        neverThrows();
        Check.close("RefusalTests");
    }

    private static void noSuchCanon() {
        for (int v : new int[] {-1, 5, Integer.MIN_VALUE, Integer.MAX_VALUE}) {
            bad("sits canon " + v, x -> x.sits(v, 0), -10);
            bad("swap first " + v, x -> x.swap(v, 0), -2);
            bad("swap second " + v, x -> x.swap(0, v), -2);
            bad("about canon " + v, x -> x.about(v, 0), -10);
            bad("taken canon " + v, x -> x.taken(v, 0), -2);
            bad("takes canon " + v, x -> x.takes(v, 0), -2);
            bad("then canon " + v, x -> x.then(v, 0, 1), -2);
            bad("when canon " + v, x -> x.when(v, 0, 1), -2);
            bad("place canon " + v, x -> x.place(v, 0, 1, 0), -2);
            bad("wish canon " + v, x -> x.wish(v, 0, 1), -2);
            bad("blur canon " + v, x -> x.blur(0, v, 1, 0), -2);
            bad("where canon " + v, x -> x.where(v, 0, 1), -2);
            bad("mark canon " + v, x -> x.mark(v, 0, 0, 0), -2);
            bad("what canon " + v, x -> x.what(v), -2);
            bad("tries canon " + v, x -> x.tries(v), -2);
            bad("two first " + v, x -> x.two(v, 0, 0), -10);
            bad("two second " + v, x -> x.two(0, v, 0), -10);
        }
        for (int v : new int[] {-2, 5, Integer.MIN_VALUE, Integer.MAX_VALUE}) {
            bad("seating canon " + v, x -> x.seating(1, v), -10);
            if (v < 0) {
                bad("two k " + v, x -> x.two(0, 1, v), -10);
            }
        }
        bad("two alike", x -> x.two(1, 1, 0), -10);
        bad("swap alike", x -> x.swap(1, 1), -2);
    }

    private static void noSuchSeat() {
        for (int v : new int[] {-1, 7, Integer.MIN_VALUE, Integer.MAX_VALUE}) {
            if (v != -1) {
                bad("sits seat " + v, x -> x.sits(0, v), -10);
            }
            bad("of seat " + v, x -> x.of(v, 0), -10);
            bad("takes seat " + v, x -> x.takes(0, v), -2);
            bad("depth seat " + v, x -> x.depth(v, 0), -2);
            bad("blank seat " + v, x -> x.blank(v), -2);
            bad("row place " + v, x -> x.row(v), -2);
            bad("blur seat " + v, x -> x.blur(v, 0, 1, 0), -2);
            bad("note seat " + v, x -> x.note(v, 0, 0, 0, 0), -2);
            bad("is seat " + v, x -> x.is(v), -2);
            bad("look seat " + v, x -> x.look(v), -2);
        }
    }

    private static void outOfBounds() {
        bounds("seat depth", (x, v) -> x.seat(0, 0, v), 0, 40, -2);
        bounds("canon weight", (x, v) -> x.canon(0, v), 1, 9, -2);
        bounds("type", (x, v) -> x.type(v), 0, 127, -2);
        bounds("year", (x, v) -> x.year(v), 1, 30, -2);
        bounds("of what", (x, v) -> x.of(0, v), 0, 3, -10);
        bounds("about what", (x, v) -> x.about(0, v), 0, 4, -10);
        bounds("then n", (x, v) -> x.then(0, 0, v), 0, 60, -2);
        bounds("depth n", (x, v) -> x.depth(0, v), 0, 60, -2);
        bounds("when x", (x, v) -> x.when(0, 0, v), 1, 99, -2);
        bounds("first what", (x, v) -> x.first(0, v), 0, 1, -2);
        bounds("place x", (x, v) -> x.place(0, 0, v, 0), 1, 99, -2);
        bounds("place what", (x, v) -> x.place(0, 0, 1, v), 0, 1, -2);
        bounds("wish x", (x, v) -> x.wish(0, 0, v), 0, 99, -2);
        bounds("seating n", (x, v) -> x.seating(v, 0), 0, 12, -10);
        bounds("blur n", (x, v) -> x.blur(0, 0, v, 0), 0, 20, -2);
        bounds("blur what", (x, v) -> x.blur(0, 0, 0, v), 0, 2, -2);
        bounds("where x", (x, v) -> x.where(0, 0, v), 0, 60, -2);
        bounds("note d", (x, v) -> x.note(0, v, 0, 0, 0), 0, 40, -2);
        bounds("note y", (x, v) -> x.note(0, 0, v, 0, 0), 0, 99, -2);
        bounds("note h", (x, v) -> x.note(0, 0, 0, v, 0), 0, 99, -2);
        bounds("note x", (x, v) -> x.note(0, 0, 0, 0, v), 0, 40, -2);
        bounds("mark g", (x, v) -> x.mark(0, v, 0, 0), 0, 40, -2);
        bounds("mark h", (x, v) -> x.mark(0, 0, v, 0), 0, 99, -2);
        bounds("mark x", (x, v) -> x.mark(0, 0, 0, v), 0, 60, -2);
        bounds("forget", (x, v) -> x.forget(v), 0, 2, -2);
        bounds("left k", (x, v) -> x.left(v, 0, 0), 0, 5, -2);
        bounds("left m", (x, v) -> x.left(0, v, 0), 0, 3, -2);
        bounds("left c", (x, v) -> x.left(0, 0, v), 0, 10, -2);
        bounds("years seed", (x, v) -> x.years(v, 0), 0, 999999, -2);
        bounds("years n", (x, v) -> x.years(0, v), 0, 60, -2);
        bounds("part", (x, v) -> x.part(v), 0, 1, -2);
        bounds("image", (x, v) -> x.image(v), 0, 1, -2);
        bounds("from", (x, v) -> x.from(v), 0, 1, -2);
        bounds("status", (x, v) -> x.status(v), 0, 2, -1);
        bounds("count", (x, v) -> x.count(v), 0, 10, -2);
    }

    private interface Numbered {
        long call(SeatScene x, int v);
    }

    /** One too few and one too many are refused; the least and the greatest (on a chapter with room) are not. */
    private static void bounds(String name, Numbered call, int least, int greatest, long answer) {
        for (int v : new int[] {least - 1, greatest + 1, Integer.MIN_VALUE, Integer.MAX_VALUE}) {
            bad(name + " " + v, x -> call.call(x, v), answer);
        }
        for (int v : new int[] {least, greatest}) {
            SeatScene x = new SeatScene();
            x.seat(0, 0, 5);
            x.canon(0, 1);
            x.image(0);
            x.image(1);
            call.call(x, v);
            Check.due("refused by " + name + " " + v, x.status(0) + x.status(1) + x.status(2), 0);
        }
    }

    private static void noAndFull() {
        Check.promise("refused as NO, FULL");
        refused("seat", x -> x.seat(0, 0, 0), -4, 2);
        refused("canon", x -> x.canon(0, 1), -4, 2);
        refused("wish", x -> x.wish(0, 0, 0), -4, 2);
        refused("note", x -> x.note(0, 0, 0, 0, 0), -4, 2);
        refused("mark", x -> x.mark(0, 0, 0, 0), -4, 2);
        refused("type", x -> x.type(32), -4, 2);
        refused("sits", x -> x.sits(0, 1), -3, 1);
        refused("from", x -> x.from(1), -3, 1);
        SeatScene x = full();
        for (int i = 0; i < 8; i++) {
            x.undo();
        }
        long before = x.digest();
        Check.due("undo", x.undo(), -3);
        Check.due("digest behind undo", x.digest(), before);
        Check.due("status behind undo", x.status(1), 1);
    }

    private static void bad(String call, ToLongFunction<SeatScene> doing, long answer) {
        refused(call, doing, answer, 0);
    }

    private static void refused(String call, ToLongFunction<SeatScene> doing, long answer, int as) {
        SeatScene x = full();
        SeatScene y = full();
        Check.due(call, doing.applyAsLong(x), answer);
        for (int i = 0; i < 3; i++) {
            Check.due("status(" + i + ") behind " + call, x.status(i), i == as ? 1 : 0);
        }
        Check.due("digest behind " + call, x.digest(), y.digest());
        Check.due("of behind " + call, x.read(), y.read());
        Check.due("digest of the text behind " + call, x.digest(), y.digest());
        x.from(0);
        y.from(0);
        for (int i = 0; i <= 9; i++) {
            Check.due("undo behind " + call, x.undo(), y.undo());
            Check.due("digest of the past behind " + call, x.digest(), y.digest());
        }
        Check.due("image 1 behind " + call, x.from(1), -3);
    }

    /** A chapter with room for nothing more, an image of it, a text that can be read. */
    private static SeatScene full() {
        SeatScene x = new SeatScene();
        for (int i = 0; i < 7; i++) {
            x.seat(i % 6, i % 4, 40 - i);
        }
        for (int i = 0; i < 5; i++) {
            x.canon(i, 5 + i % 5);
        }
        for (int i = 0; i < 6; i++) {
            x.wish(i % 5, i % 4, 5 * i);
            x.note(i, 20, i, i, 5);
            x.mark(i % 5, 9, i, 9);
        }
        for (int i = 0; i < 5; i++) {
            x.sits(i, i);
        }
        for (int i = 1; i <= 4; i++) {
            x.year(i);
        }
        x.left(2, 2, 3);
        StringBuilder text = new StringBuilder("chapter;seat 1 2 33;canon 3 4;sits 0 0;years 3;");
        while (text.length() < 150) {
            text.append(' ');
        }
        PromiseTests.tell(x, text.toString());
        x.image(0);
        return x;
    }

    /** The machine throws nothing, whatever is asked, of an empty chapter, a full one, one of seats alone. */
    private static void neverThrows() {
        Check.promise("any numbers");
        for (int kind = 0; kind < 3; kind++) {
            for (int a : WILD) {
                for (int b : WILD) {
                    SeatScene x = kind == 0 ? new SeatScene() : kind == 1 ? full() : seatsAlone();
                    askAll(x, a, b);
                    Check.right++;
                }
            }
        }
    }

    private static SeatScene seatsAlone() {
        SeatScene x = new SeatScene();
        x.seat(1, 1, 1);
        x.seat(2, 1, 1);
        return x;
    }

    private static void askAll(SeatScene x, int a, int b) {
        x.of(a, b);
        x.about(a, b);
        x.taken(a, b);
        x.takes(a, b);
        x.depth(a, b);
        x.first(a, b);
        x.blank(a);
        x.seating(a, b);
        x.seating(1, b);
        x.quarrels();
        x.row(a);
        x.is(a);
        x.look(a);
        x.what(a);
        x.tries(a);
        x.years(a, b);
        x.part(a);
        x.status(a);
        x.count(a);
        for (int c : new int[] {-1, 0, 1, 60, b}) {
            x.then(a, b, c);
            x.when(a, b, c);
            x.place(a, b, c, 0);
            x.blur(a, b, c, 1);
            x.where(a, b, c);
            x.two(a, b, c);
            x.left(a, b, c);
        }
        x.sits(a, b);
        x.swap(a, b);
        x.year(a);
        x.undo();
        x.type(a);
        x.read();
        x.clear();
        x.wish(a, b, a);
        x.note(a, b, a, b, a);
        x.mark(a, b, a, b);
        x.forget(a);
        x.image(a);
        x.from(b);
        x.canon(a, b);
        x.seat(a, b, a);
        x.digest();
        x.chapter();
        x.digest();
    }
}
