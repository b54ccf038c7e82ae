import java.math.BigInteger;

/** The boundaries of promises 38 to 43: part, image, from, status, count, digest. */
final class KeptEdges {
    private static final int NONE = SeatScene.NONE;
    private static final int BAD = SeatScene.BAD;
    private static final int NO = SeatScene.NO;
    private static final int FULL = SeatScene.FULL;

    private KeptEdges() {
    }

    public static void main(String[] args) {
        p38Part();
        p39Image();
        p39Apart();
        p39Rows();
        p40From();
        p40Whole();
        p40GoesOn();
        p41Status();
        p41Each();
        p41NoRefusal();
        p42Count();
        p42Most();
        p43Digest();
        p43Each();
        Check.close("KeptEdges");
    }

    private static void due(String call, long got, long want) {
        Check.due(call, got, want);
    }

    // ---- promise 38

    private static void p38Part() {
        Check.promise("promise 38, part");
        Edges.askBounds("part", (x, v) -> x.part(v), 0, 3, 1, 4, BAD);
        Edges.bad("part(2) at first", Edges::empty, x -> x.part(2));
        Edges.asks("above at first", Edges::empty, x -> x.part(0), 0);
        Edges.asks("below at first", Edges::empty, x -> x.part(1), 1);
        SeatScene x = new SeatScene();
        for (int i = 0; i < 5; i++) {
            x.canon(0, 1);
        }
        x.left(5, 3, 9);
        due("below, the greatest", x.part(1), 1000000000000000L);
        x.left(1, 3, 9);
        due("above, beyond an int", x.part(0), 4990009995001L);
    }

    // ---- promise 39

    private static void p39Image() {
        Check.promise("promise 39, image");
        Edges.doBounds("image", (x, v) -> x.image(v), 0, 1, 1, 1, BAD);
        Edges.bad("image(2) of nothing", Edges::empty, x -> x.image(2));
        Edges.bad("image(-1) of nothing", Edges::empty, x -> x.image(-1));
        SeatScene x = new SeatScene();
        due("of nothing", x.image(0), 1);
        due("the other is none yet", x.from(1), NO);
        x.seat(0, 0, 9);
        x.canon(0, 1);
        due("from nothing", x.from(0), 1);
        due("no seats", x.count(0), 0);
        due("no canons", x.count(1), 0);
        x.seat(1, 1, 1);
        due("kept again", x.image(0), 1);
        x.chapter();
        x.from(0);
        due("the later one", x.of(0, 0), 1);
    }

    /** What comes behind an image does not change it; one does not change the other. */
    private static void p39Apart() {
        Check.promise("promise 39, apart");
        SeatScene x = Edges.full();
        long late = x.digest();
        x.from(1);
        long early = x.digest();
        x.from(0);
        x.year(30);
        x.sits(0, 6);
        x.swap(1, 2);
        x.forget(0);
        x.forget(1);
        x.forget(2);
        x.wish(0, 0, 99);
        x.note(6, 40, 99, 99, 40);
        x.mark(4, 40, 99, 60);
        x.from(1);
        due("image 1", x.digest(), early);
        x.from(0);
        due("image 0", x.digest(), late);
        x.chapter();
        x.seat(5, 3, 1);
        x.canon(5, 1);
        x.from(1);
        due("image 1 again", x.digest(), early);
        x.image(0);
        x.year(1);
        x.from(0);
        due("image 0 is as image 1", x.digest(), early);
        x.year(1);
        x.image(1);
        x.from(0);
        due("image 0 is not as image 1 now", x.digest(), early);
        due("which it holds", x.from(1), 1);
        due("a year on", x.count(2), 7);
    }

    /** Six wishes, notes and marks come back, over six others. */
    private static void p39Rows() {
        Check.promise("promise 39, six of each");
        SeatScene x = Edges.full();
        long before = x.digest();
        for (int what = 0; what < 3; what++) {
            x.forget(what);
        }
        for (int i = 0; i < 6; i++) {
            x.wish(4 - i % 5, 3 - i % 4, 90 + i);
            x.note(6 - i, 30 + i, 80 + i, 90 + i, 20 + i);
            x.mark(4 - i % 5, 30 + i, 90 + i, 50 + i);
        }
        long other = x.digest();
        x.image(1);
        x.from(0);
        due("image 0", x.digest(), before);
        x.from(1);
        due("image 1", x.digest(), other);
        x.from(0);
        due("image 0 again", x.digest(), before);
        x.from(1);
        due("what the sixth note leaves", x.is(1), 0);
        x.forget(1);
        due("the notes of image 0", x.from(0), 1);
        due("what they leave of seat 0", x.is(0), 1 + 2 + 32);
    }

    // ---- promise 40

    private static void p40From() {
        Check.promise("promise 40, from");
        Edges.refused("none was kept", Edges::roomy, x -> x.from(1), NO, Edges.AS_NO);
        Edges.refused("none was kept, 0", Edges::seatsAlone, x -> x.from(0), NO, Edges.AS_NO);
        Edges.answers("one was kept", Edges::roomy, x -> x.from(0), 1);
        Edges.answers("both were kept", Edges::full, x -> x.from(1), 1);
        for (int v : new int[] {-1, 2, Integer.MIN_VALUE, Integer.MAX_VALUE}) {
            Edges.bad("from " + v, Edges::roomy, x -> x.from(v));
            Edges.bad("from " + v + " of nothing", Edges::empty, x -> x.from(v));
        }
        SeatScene x = Edges.roomy();
        x.chapter();
        due("behind chapter", x.from(0), 1);
        due("again", x.from(0), 1);
        due("seats", x.count(0), 3);
    }

    /** All that an image keeps comes back, over a chapter with other numbers in every place. */
    private static void p40Whole() {
        Check.promise("promise 40, all comes back");
        SeatScene x = Edges.roomy();
        SeatScene y = Edges.roomy();
        x.chapter();
        for (int i = 0; i < 7; i++) {
            x.seat(3, 3, 33);
        }
        for (int i = 0; i < 5; i++) {
            x.canon(4, 8);
        }
        for (int i = 0; i < 6; i++) {
            x.wish(3, 3, 33);
            x.note(3, 33, 33, 33, 33);
            x.mark(3, 33, 33, 33);
        }
        for (int i = 0; i < 10; i++) {
            x.sits(i % 5, i % 5 + i / 5);
        }
        x.year(13);
        due("from(0)", x.from(0), 1);
        due("digest()", x.digest(), y.digest());
        due("a canon's heaviness", x.about(0, 4), 9);
        due("nobody on a seat that is gone", x.of(2, 3), NONE);
        for (int i = 0; i < 4; i++) {
            due("undo()", x.undo(), y.undo());
            due("digest() behind it", x.digest(), y.digest());
        }
        due("a seat comes fourth", x.seat(0, 0, 0), 3);
        due("a canon comes third", x.canon(0, 1), 2);
        due("who sits on none", x.about(2, 2), NONE);
        due("and has taken nothing", x.taken(2, 3), 0);
        due("a wish comes second", x.wish(0, 0, 0), 2);
    }

    private static void p40GoesOn() {
        Check.promise("promise 40, what stays as it is");
        SeatScene x = Edges.roomy();
        Edges.tell(x, "chapter;years 7;");
        x.left(2, 1, 1);
        x.year(0);
        x.sits(1, 0);
        x.image(1);
        x.from(0);
        due("the text", x.count(10), 16);
        due("the fraction", x.part(0), 81);
        due("STATUS, BAD", x.status(0), 1);
        due("STATUS, NO", x.status(1), 1);
        due("the other image", x.from(1), 1);
        due("read()", x.read(), 2);
        due("the text as it was", x.count(2), 7);
        // what may be undone goes with the image, not with the one that is left
        x = Edges.full();
        x.from(1);
        due("eight", x.count(9), 8);
        due("undo()", x.undo(), 3);
        x.from(1);
        due("eight again", x.count(9), 8);
        x.chapter();
        x.image(0);
        x.from(1);
        x.from(0);
        due("none in an empty one", x.undo(), NO);
        x.from(1);
        x.seat(0, 0, 0);
        due("none came, so eight", x.count(9), 8);
    }

    // ---- promise 41

    private static void p41Status() {
        Check.promise("promise 41, status");
        Edges.askBounds("status", (x, v) -> x.status(v), 0, 0, 2, 0, -1);
        Edges.refused("of nothing", Edges::empty, x -> x.status(3), -1, Edges.AS_BAD);
        SeatScene x = Edges.full();
        for (int i = 1; i <= 60; i++) {
            due("another what", x.status(i % 2 == 0 ? -1 : 3), -1);
            due("counts as BAD", x.status(0), i);
        }
        for (int i = 1; i <= 5; i++) {
            x.sits(0, 1);
            x.canon(0, 1);
            x.type(1);
            due("NO", x.status(1), i);
            due("FULL", x.status(2), 2 * i);
        }
        due("BAD stays", x.status(0), 60);
        x.chapter();
        x.from(0);
        x.read();
        due("BAD stays behind all", x.status(0), 60);
        due("NO stays behind all", x.status(1), 5);
        due("FULL stays behind all", x.status(2), 10);
    }

    /** Each call that can be refused, each sort, one behind the other: each is counted once in its place. */
    private static void p41Each() {
        Check.promise("promise 41, each refusal");
        Edges.Call[] bad = {x -> x.seat(6, 0, 0), x -> x.canon(6, 1), x -> x.type(128), x -> x.swap(0, 0),
            x -> x.year(0), x -> x.taken(5, 0), x -> x.takes(0, 7), x -> x.then(0, 0, 61), x -> x.depth(7, 0),
            x -> x.when(0, 0, 0), x -> x.first(4, 0), x -> x.blank(7), x -> x.place(0, 0, 0, 0), x -> x.wish(0, 0, 100),
            x -> x.row(7), x -> x.blur(0, 0, 21, 0), x -> x.where(0, 0, 61), x -> x.note(0, 0, 0, 0, 41),
            x -> x.mark(0, 0, 0, 61), x -> x.forget(3), x -> x.is(7), x -> x.look(7), x -> x.what(5), x -> x.tries(5),
            x -> x.left(6, 0, 0), x -> x.years(-1, 0), x -> x.part(2), x -> x.image(2), x -> x.from(2), x -> x.count(11)};
        Edges.Call[] ten = {x -> x.sits(5, 0), x -> x.of(7, 0), x -> x.about(5, 0), x -> x.seating(13, 0),
            x -> x.two(0, 0, 0)};
        Edges.Call[] full = {x -> x.seat(0, 0, 0), x -> x.canon(0, 1), x -> x.type(0), x -> x.wish(0, 0, 0),
            x -> x.note(0, 0, 0, 0, 0), x -> x.mark(0, 0, 0, 0)};
        SeatScene x = Edges.full();
        counted(x, bad, BAD, 0, 0);
        counted(x, ten, -10, 0, bad.length);
        counted(x, full, FULL, 2, 0);
        due("NO: another one sits there", x.sits(0, 1), NO);
        for (int i = 0; i < 8; i++) {
            x.undo();
        }
        due("eight were not refused", x.status(1), 1);
        due("NO: none may be undone", x.undo(), NO);
        due("NO, twice", x.status(1), 2);
        due("NO: none was kept", new SeatScene().from(0), NO);
        due("BAD of all", x.status(0), bad.length + ten.length);
        due("FULL of all", x.status(2), full.length);
    }

    private static void counted(SeatScene x, Edges.Call[] calls, int answer, int place, int before) {
        for (int i = 0; i < calls.length; i++) {
            due("refused call " + i + " of " + answer, calls[i].on(x), answer);
            due("counted", x.status(place), before + i + 1);
        }
    }

    /** NONE, -5, a fault of the text, 0: answers, not refusals. */
    private static void p41NoRefusal() {
        Check.promise("promise 41, what is no refusal");
        Edges.Call[] calls = {x -> x.two(0, 1, 48), x -> x.read(), x -> x.first(1, 0), x -> x.when(0, 3, 99),
            x -> x.blur(0, 0, 20, 1), x -> x.place(0, 3, 99, 0), x -> x.seating(0, 1), x -> x.of(2, 3),
            x -> x.blank(1), x -> x.sits(0, NONE), x -> x.sits(0, NONE), x -> x.seating(0, NONE)};
        SeatScene x = Edges.roomy();
        x.type('x');
        for (Edges.Call call : calls) {
            call.on(x);
            due("refused", x.status(0) + x.status(1) + x.status(2), 0);
        }
        x.canon(3, 1);
        x.mark(2, 0, 0, 60);
        x.note(0, 0, 0, 0, 40);
        due("tries()", x.tries(2), NONE);
        due("look()", x.look(0), NONE);
        x.seat(0, 0, 0);
        x.seat(0, 0, 0);
        x.seat(0, 0, 0);
        due("row()", x.row(0), NONE);
        due("refused", x.status(0) + x.status(1) + x.status(2), 0);
    }

    // ---- promise 42

    private static void p42Count() {
        Check.promise("promise 42, count");
        Edges.askBounds("count", (x, v) -> x.count(v), 0, 3, 10, 20, BAD);
        Edges.bad("count(11) of nothing", Edges::empty, x -> x.count(11));
        int[] want = {3, 2, 1, 3, 65, 21, 1, 1, 1, 3, 20};
        for (int i = 0; i <= 10; i++) {
            int what = i;
            Edges.asks("count(" + i + ")", Edges::roomy, x -> x.count(what), want[i]);
        }
        SeatScene x = Edges.full();
        int[] most = {7, 5, 10, 31, -1, -1, 6, 6, 6, 8, 150};
        for (int i = 0; i <= 10; i++) {
            if (most[i] >= 0) {
                due("count(" + i + ") of a full one", x.count(i), most[i]);
            }
        }
        for (int c = 0; c < 5; c++) {
            x.sits(c, NONE);
            due("who sit behind " + c, x.count(3), 31 & -2 << c);
        }
        x.sits(4, 0);
        due("bits of canons, not of seats", x.count(3), 16);
    }

    private static void p42Most() {
        Check.promise("promise 42, the greatest");
        SeatScene x = new SeatScene();
        for (int s = 0; s < 7; s++) {
            x.seat(2, s % 4, 40);
            due("depth of all", x.count(4), 40 * (s + 1));
        }
        for (int c = 0; c < 5; c++) {
            x.canon(0, 1);
        }
        int taken = 0;
        for (int t = 0; t < 4; t++) {
            for (int c = 0; c < 5; c++) {
                x.sits(c, NONE);
            }
            for (int c = 0; c < 5; c++) {
                x.sits(c, t);
                x.year(5);
                x.sits(c, NONE);
                taken += 99;
                due("taken by all", x.count(5), taken);
            }
        }
        due("20 times 99", x.count(5), 1980);
        due("the year", x.count(2), 100);
        due("nobody sits", x.count(3), 0);
        due("depth of all yet", x.count(4), 280);
    }

    // ---- promise 43

    private static long folded(long... values) {
        BigInteger h = BigInteger.valueOf(1499);
        for (long v : values) {
            h = h.multiply(BigInteger.valueOf(31)).add(BigInteger.valueOf(v));
        }
        return h.longValue();
    }

    private static void p43Digest() {
        Check.promise("promise 43, digest");
        Edges.asks("nothing", Edges::empty, x -> x.digest(), folded(0, 0, 0, 0, 0, 0, 0, 0, 0, 0, 0, 0, 1));
        Edges.asks("two seats", Edges::seatsAlone, x -> x.digest(),
                folded(2, 0, 0, 0, 50, 0, 0, 0, 0, 0, 0, 0, 1, 30, 2, 1, 20, 0, 1));
        Edges.asks("two canons", Edges::canonsAlone, x -> x.digest(),
                folded(0, 2, 0, 0, 0, 0, 0, 0, 0, 0, 0, 0, 9, -1, 0, 0, 0, 0, 5, 4, -1, 0, 0, 0, 0, 0, 1));
        Edges.asks("some of all", Edges::roomy, x -> x.digest(), folded(3, 2, 1, 3, 65, 21, 1, 1, 1, 3, 20,
                0, 0, 37, 2, 2, 20, 5, 0, 8, 0, 9, 0, 10, 0, 0, 0, 2, 3, 1, 0, 0, 11, 0,
                0, 0, 20, 0, 40, 0, 0, 10, 1, 10, 0, 11, 3, 4));
        Edges.asks("a full one", Edges::full, x -> x.digest(), folded(valuesOf(Edges.full())));
    }

    /** The values of a full one, by what the calls say and the rows that were told. */
    private static long[] valuesOf(SeatScene x) {
        long[] v = new long[11 + 21 + 35 + 18 + 30 + 24 + 2];
        int n = 0;
        for (int i = 0; i <= 10; i++) {
            v[n++] = x.count(i);
        }
        for (int s = 0; s < 7; s++) {
            for (int what = 0; what < 3; what++) {
                v[n++] = x.of(s, what);
            }
        }
        for (int c = 0; c < 5; c++) {
            for (int what = 0; what < 3; what++) {
                v[n++] = x.about(c, what);
            }
            for (int t = 0; t < 4; t++) {
                v[n++] = x.taken(c, t);
            }
        }
        for (int i = 0; i < 6; i++) {
            n = put(v, n, i % 5, i % 4, 5 * i);
        }
        for (int i = 0; i < 6; i++) {
            n = put(v, n, i, 20, i, i, 5);
        }
        for (int i = 0; i < 6; i++) {
            n = put(v, n, i % 5, 9, i, 9);
        }
        n = put(v, n, x.part(0), x.part(1));
        due("all values", n, v.length);
        return v;
    }

    private static int put(long[] v, int from, long... row) {
        System.arraycopy(row, 0, v, from, row.length);
        return from + row.length;
    }

    /** Whatever is told by one more makes another digest; what is not in it makes none. */
    private static void p43Each() {
        Check.promise("promise 43, what is in it");
        Edges.Call[] in = {x -> x.seat(0, 0, 0), x -> x.canon(0, 1), x -> x.year(1), x -> x.sits(0, NONE),
            x -> x.swap(0, 1), x -> x.undo(), x -> x.wish(0, 0, 0), x -> x.note(0, 0, 0, 0, 0), x -> x.mark(0, 0, 0, 0),
            x -> x.forget(0), x -> x.forget(1), x -> x.forget(2), x -> x.type(0), x -> x.clear(), x -> x.read(),
            x -> x.chapter(), x -> x.left(0, 0, 0)};
        long before = Edges.roomy().digest();
        for (int i = 0; i < in.length; i++) {
            SeatScene x = Edges.roomy();
            in[i].on(x);
            Check.holds("another digest behind call " + i, x.digest() != before);
        }
        Edges.Call[] out = {x -> x.image(1), x -> x.from(0), x -> x.year(0), x -> x.from(1), x -> x.status(7),
            x -> x.digest()};
        for (int i = 0; i < out.length; i++) {
            SeatScene x = Edges.roomy();
            out[i].on(x);
            due("the same digest behind call " + i, x.digest(), before);
        }
    }
}
