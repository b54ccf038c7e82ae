import java.math.BigInteger;

/** The boundaries of promises 27 to 37: where, notes and marks, what they are, two, left, years by a seed. */
final class KindEdges {
    private static final int OTHER = -10;
    private static final int NOT_SO_MANY = -5;
    private static final int NONE = SeatScene.NONE;
    private static final int BAD = SeatScene.BAD;

    private KindEdges() {
    }

    public static void main(String[] args) {
        p27Where();
        p27Seven();
        p28Note();
        p29Mark();
        p30Forget();
        p31Is();
        p31Six();
        p32Look();
        p32Depth();
        p33What();
        p33Six();
        p34Tries();
        p34Bounds();
        p35Two();
        p35FewSeats();
        p35Seven();
        p35Rests();
        p36Left();
        p36All();
        p36Lowest();
        p37Years();
        p37Seeds();
        p37Ahead();
        p37Cut();
        Check.close("KindEdges");
    }

    private static void due(String call, long got, long want) {
        Check.due(call, got, want);
    }

    // ---- promise 27

    private static void p27Where() {
        Check.promise("promise 27, where");
        Edges.askBounds("canon", (x, v) -> x.where(v, 0, 10), 0, 0, 1, 1, BAD);
        Edges.askBounds("trait", (x, v) -> x.where(0, v, 0), 0, 2, 3, 7, BAD);
        Edges.askBounds("x", (x, v) -> x.where(0, 3, v), 0, 7, 60, 0, BAD);
        Edges.canonBounds("canon", (x, v) -> x.where(v, 0, 0), BAD);
        Edges.asks("no seats", Edges::canonsAlone, x -> x.where(0, 0, 0), 0);
        int[][] want = {{8, 0}, {9, 1}, {10, 0}, {4, 4}, {3, 0}, {5, 0}, {0, 2}};
        for (int[] row : want) {
            Edges.asks("where(0, 0, " + row[0] + ")", Edges::roomy, x -> x.where(0, 0, row[0]), row[1]);
        }
        Edges.asks("on which another sits", Edges::roomy, x -> x.where(0, 2, 10), 2);
        Edges.asks("where he sits", Edges::roomy, x -> x.where(1, 2, 11), 2);
        Edges.asks("one less", Edges::roomy, x -> x.where(1, 2, 10), 0);
        Edges.asks("one more", Edges::roomy, x -> x.where(1, 2, 12), 0);
    }

    private static void p27Seven() {
        Check.promise("promise 27, seven seats");
        SeatScene x = new SeatScene();
        for (int s = 0; s < 7; s++) {
            x.seat(2, 1, 40);
        }
        x.canon(2, 1);
        due("all seven", x.where(0, 1, 21), 127);
        due("none", x.where(0, 1, 20), 0);
        due("none gives 0", x.where(0, 1, 0), 0);
        due("all of another trait", x.where(0, 0, 0), 127);
        x.sits(0, 6);
        x.year(30);
        due("not cut by the 99", x.where(0, 1, 21), 127);
        x.chapter();
        for (int s = 0; s < 7; s++) {
            x.seat(0, s < 3 ? 0 : 1, s == 1 || s == 4 ? 3 : 4);
        }
        x.canon(0, 1);
        due("0 of their own trait, too", x.where(0, 0, 0), 2 + 8 + 16 + 32 + 64);
        due("1", x.where(0, 0, 1), 1 + 4);
        due("1 of the other", x.where(0, 1, 1), 8 + 32 + 64);
    }

    // ---- promise 28

    private static void p28Note() {
        Check.promise("promise 28, note");
        Edges.doBounds("seat", (x, v) -> x.note(v, 1, 1, 1, 1), 0, 2, 2, 2, BAD);
        Edges.doBounds("deep", (x, v) -> x.note(1, v, 1, 1, 1), 0, 2, 40, 2, BAD);
        Edges.doBounds("year", (x, v) -> x.note(1, 1, v, 1, 1), 0, 2, 99, 2, BAD);
        Edges.doBounds("taken", (x, v) -> x.note(1, 1, 1, v, 1), 0, 2, 99, 2, BAD);
        Edges.doBounds("gave", (x, v) -> x.note(1, 1, 1, 1, v), 0, 2, 40, 2, BAD);
        Edges.bad("no seat", Edges::empty, x -> x.note(0, 0, 0, 0, 0));
        Edges.bad("no seat, canons", Edges::canonsAlone, x -> x.note(0, 0, 0, 0, 0));
        Edges.bad("seat 2 of two", Edges::seatsAlone, x -> x.note(2, 0, 0, 0, 0));
        Edges.refused("a seventh", Edges::full, x -> x.note(0, 0, 0, 0, 0), SeatScene.FULL, Edges.AS_FULL);
        Edges.bad("BAD seat ahead of FULL", Edges::full, x -> x.note(7, 0, 0, 0, 0));
        Edges.bad("BAD depth ahead of FULL", Edges::full, x -> x.note(0, 41, 0, 0, 0));
        Edges.bad("BAD year ahead of FULL", Edges::full, x -> x.note(0, 0, 100, 0, 0));
        Edges.bad("BAD taken ahead of FULL", Edges::full, x -> x.note(0, 0, 0, 100, 0));
        Edges.bad("BAD given ahead of FULL", Edges::full, x -> x.note(0, 0, 0, 0, 41));
        SeatScene x = Edges.seatsAlone();
        for (int i = 1; i <= 6; i++) {
            due("note " + i, x.note(1, 40, 99, 99, 40), i);
            due("count(7)", x.count(7), i);
        }
        due("a seventh", x.note(1, 40, 99, 99, 40), SeatScene.FULL);
        x.forget(1);
        due("room again", x.note(1, 0, 0, 0, 0), 1);
    }

    // ---- promise 29

    private static void p29Mark() {
        Check.promise("promise 29, mark");
        Edges.doBounds("canon", (x, v) -> x.mark(v, 1, 1, 1), 0, 2, 1, 2, BAD);
        Edges.doBounds("given", (x, v) -> x.mark(1, v, 1, 1), 0, 2, 40, 2, BAD);
        Edges.doBounds("taken", (x, v) -> x.mark(1, 1, v, 1), 0, 2, 99, 2, BAD);
        Edges.doBounds("took", (x, v) -> x.mark(1, 1, 1, v), 0, 2, 60, 2, BAD);
        Edges.bad("no canon", Edges::empty, x -> x.mark(0, 0, 0, 0));
        Edges.bad("no canon, seats", Edges::seatsAlone, x -> x.mark(0, 0, 0, 0));
        Edges.bad("canon 2 of two", Edges::canonsAlone, x -> x.mark(2, 0, 0, 0));
        Edges.refused("a seventh", Edges::full, x -> x.mark(0, 0, 0, 0), SeatScene.FULL, Edges.AS_FULL);
        Edges.bad("BAD canon ahead of FULL", Edges::full, x -> x.mark(5, 0, 0, 0));
        Edges.bad("BAD given ahead of FULL", Edges::full, x -> x.mark(0, 41, 0, 0));
        Edges.bad("BAD taken ahead of FULL", Edges::full, x -> x.mark(0, 0, 100, 0));
        Edges.bad("BAD took ahead of FULL", Edges::full, x -> x.mark(0, 0, 0, 61));
        SeatScene x = Edges.canonsAlone();
        for (int i = 1; i <= 6; i++) {
            due("mark " + i, x.mark(1, 40, 99, 60), i);
            due("count(8)", x.count(8), i);
        }
        due("a seventh", x.mark(1, 40, 99, 60), SeatScene.FULL);
        x.forget(2);
        due("room again", x.mark(1, 0, 0, 0), 1);
    }

    // ---- promise 30

    private static void p30Forget() {
        Check.promise("promise 30, forget");
        Edges.doBounds("what", (x, v) -> x.forget(v), 0, 1, 2, 1, BAD);
        Edges.bad("3 in the empty chapter", Edges::empty, x -> x.forget(3));
        for (int what = 0; what <= 2; what++) {
            int of = what;
            Edges.asks("none of " + what, Edges::seatsAlone, x -> x.forget(of), 0);
            Edges.answers("six of " + what, Edges::full, x -> x.forget(of), 6);
            SeatScene x = Edges.full();
            x.forget(what);
            for (int i = 0; i <= 2; i++) {
                due("count(" + (6 + i) + ")", x.count(6 + i), i == what ? 0 : 6);
            }
            due("again", x.forget(what), 0);
            due("what may be undone", x.count(9), 8);
            x.from(0);
            due("the image has them yet", x.forget(what), 6);
        }
        SeatScene x = Edges.full();
        x.forget(1);
        due("is() of no notes", x.is(0), 63);
        x.forget(2);
        due("what() of no marks", x.what(0), 63);
        x.forget(0);
        due("seating() of no wishes", x.seating(12, NONE), 0);
    }

    // ---- promise 31

    private static void p31Is() {
        Check.promise("promise 31, is");
        Edges.askBounds("seat", (x, v) -> x.is(v), 0, 1 + 2 + 32, 2, 63, BAD);
        Edges.seatBounds("seat", (x, v) -> x.is(v), BAD);
        Edges.asks("no notes", Edges::seatsAlone, x -> x.is(1), 63);
        SeatScene x = Edges.seatsAlone();
        x.note(0, 40, 99, 99, 40);
        due("no kind gives 40", x.is(0), 0);
        due("the other seat", x.is(1), 63);
        x.note(1, 40, 99, 99, 29);
        due("hands alone", x.is(1), 32);
        due("the kind that it is counts for nothing", x.of(1, 0), 2);
    }

    /** Each of six notes counts, the first as the last, and only those of the seat. */
    private static void p31Six() {
        Check.promise("promise 31, six notes");
        for (int odd = 0; odd < 6; odd++) {
            SeatScene x = Edges.seatsAlone();
            for (int i = 0; i < 6; i++) {
                // of 12 in an odd year: mermaid 6, plain, oak, gilt and hands 3; in an even one gilt 6
                x.note(1, 12, i == odd ? 1 : 2, 0, 6);
            }
            due("note " + odd + " leaves the mermaid", x.is(1), 4);
            due("the other seat", x.is(0), 63);
            x = Edges.seatsAlone();
            for (int i = 0; i < 6; i++) {
                x.note(i == odd ? 0 : 1, 12, 2, 0, i == odd ? 1 : 6);
            }
            due("note " + odd + " is of the other", x.is(1), 4 + 16);
            due("a loaf", x.is(0), 8);
        }
    }

    // ---- promise 32

    /** A seat of this depth, noted so that just the kinds told are left. */
    private static SeatScene noted(int depth, int[]... notes) {
        SeatScene x = new SeatScene();
        x.seat(0, 0, depth);
        for (int[] n : notes) {
            x.note(0, n[0], n[1], n[2], n[3]);
        }
        return x;
    }

    private static final int[] PLAIN_OAK_HANDS = {40, 0, 0, 10};
    private static final int[] PLAIN_OAK = {40, 0, 5, 10};
    private static final int[] MERMAID_GILT = {40, 0, 0, 20};
    private static final int[] MERMAID_HANDS = {8, 1, 10, 4};

    private static void p32Look() {
        Check.promise("promise 32, look");
        Edges.askBounds("seat", (x, v) -> x.look(v), 0, 500, 2, 500, BAD);
        Edges.seatBounds("seat", (x, v) -> x.look(v), BAD);
        Edges.asks("no kind", () -> noted(20, new int[] {40, 0, 0, 40}), x -> x.look(0), NONE);
        Edges.asks("one kind: the least", () -> noted(20, new int[] {40, 0, 0, 8}), x -> x.look(0), 0);
        Edges.asks("two always alike", () -> noted(20, PLAIN_OAK), x -> x.look(0), 0);
        Edges.asks("an odd year", () -> noted(20, MERMAID_GILT), x -> x.look(0), 1);
        Edges.asks("apart at once", () -> noted(20, MERMAID_HANDS), x -> x.look(0), 0);
        Edges.asks("of 0: by h alone", () -> noted(3, MERMAID_HANDS), x -> x.look(0), 500);
        Edges.asks("of 0: not at all", () -> noted(3, MERMAID_GILT), x -> x.look(0), 0);
        Edges.asks("plain, oak, hands", () -> noted(20, PLAIN_OAK_HANDS), x -> x.look(0), 500);
        // all kinds of depth 4: 1 1 2 0 2 1, at h 5 1 1 2 0 2 2, at h 10 1 1 2 0 2 3
        Edges.asks("all of 4", () -> noted(4), x -> x.look(0), 1000);
        // of depth 0: 0 0 0 0 0 0, at h 5 0 0 0 0 0 1: five alike
        Edges.asks("all of 0", () -> noted(0), x -> x.look(0), 500);
        // of depth 8: 2 2 4 0 4 2, at h 5 2 2 4 0 4 3
        Edges.asks("all of 8", () -> noted(8), x -> x.look(0), 500);
        Edges.asks("all of 40", () -> noted(40), x -> x.look(0), 500);
    }

    private static void p32Depth() {
        Check.promise("promise 32, depth as it is");
        SeatScene x = noted(5, MERMAID_GILT);
        x.canon(0, 9);
        due("of 5", x.look(0), 1);
        x.sits(0, 0);
        x.year(1);
        due("of 2", x.look(0), 0);
        x.undo();
        due("of 5 again", x.look(0), 1);
        x = noted(5, MERMAID_GILT);
        x.canon(0, 1);
        x.sits(0, 0);
        x.year(1);
        due("y is not the year", x.look(0), 1);
    }

    // ---- promise 33

    private static void p33What() {
        Check.promise("promise 33, what");
        Edges.askBounds("canon", (x, v) -> x.what(v), 0, 63, 1, 4 + 16, BAD);
        Edges.canonBounds("canon", (x, v) -> x.what(v), BAD);
        Edges.asks("no marks", Edges::canonsAlone, x -> x.what(1), 63);
        SeatScene x = Edges.canonsAlone();
        x.mark(0, 40, 99, 60);
        due("no kind takes 60", x.what(0), 0);
        due("the other canon", x.what(1), 63);
        x.mark(1, 40, 99, 41);
        due("young alone", x.what(1), 4);
        due("the kind that he is counts for nothing", x.about(1, 0), 5);
    }

    private static void p33Six() {
        Check.promise("promise 33, six marks");
        for (int odd = 0; odd < 6; odd++) {
            SeatScene x = Edges.canonsAlone();
            for (int i = 0; i < 6; i++) {
                x.mark(1, 4, i == odd ? 20 : 19, 5);
            }
            due("mark " + odd + " leaves the young", x.what(1), 4);
            due("the other canon", x.what(0), 63);
            x = Edges.canonsAlone();
            for (int i = 0; i < 6; i++) {
                x.mark(i == odd ? 0 : 1, 4, 19, i == odd ? 0 : 5);
            }
            due("mark " + odd + " is of the other", x.what(1), 4 + 16);
            due("a deacon", x.what(0), 8);
        }
    }

    // ---- promise 34

    private static SeatScene marked(int[]... marks) {
        SeatScene x = new SeatScene();
        x.canon(3, 1);
        for (int[] m : marks) {
            x.mark(0, m[0], m[1], m[2]);
        }
        return x;
    }

    private static void p34Tries() {
        Check.promise("promise 34, tries");
        Edges.askBounds("canon", (x, v) -> x.tries(v), 0, 100, 1, 120, BAD);
        Edges.canonBounds("canon", (x, v) -> x.tries(v), BAD);
        Edges.asks("no kind", () -> marked(new int[] {1, 0, 60}), x -> x.tries(0), NONE);
        Edges.asks("one kind: the least", () -> marked(new int[] {1, 20, 2}), x -> x.tries(0), 0);
        // of 1 dean and deacon take 0, of 2 they are apart
        Edges.asks("dean, deacon, bishop", () -> marked(new int[] {1, 1, 0}), x -> x.tries(0), 200);
        Edges.asks("dean, deacon", () -> marked(new int[] {1, 0, 0}), x -> x.tries(0), 200);
        Edges.asks("dean, bishop", () -> marked(new int[] {2, 1, 1}), x -> x.tries(0), 100);
        Edges.asks("plain, bishop", () -> marked(new int[] {1, 0, 1}), x -> x.tries(0), 101);
        Edges.asks("young, prebend", () -> marked(new int[] {1, 0, 2}), x -> x.tries(0), 120);
        Edges.asks("deacon, prebend", () -> marked(new int[] {9, 20, 0}), x -> x.tries(0), 100);
        Edges.asks("all", () -> marked(), x -> x.tries(0), 100);
    }

    private static void p34Bounds() {
        Check.promise("promise 34, from g 0, up to h 20");
        Edges.asks("of g 0 deacon and prebend are alike", () -> marked(new int[] {1, 20, 0}, new int[] {3, 20, 0}),
                x -> x.tries(0), 100);
        Edges.asks("h 20 is within, h 19 too little", () -> marked(new int[] {9, 19, 10}), x -> x.tries(0), 120);
        Edges.asks("a mark of h 99 leaves the young alone", () -> marked(new int[] {9, 19, 10}, new int[] {9, 99, 10}),
                x -> x.tries(0), 0);
    }

    // ---- promise 35

    private static void p35Two() {
        Check.promise("promise 35, two");
        Edges.askBounds("first", (x, v) -> x.two(v, v == 0 ? 1 : 0, NONE), 0, 2, 1, 2, OTHER);
        Edges.askBounds("second", (x, v) -> x.two(v == 0 ? 1 : 0, v, 0), 0, 1, 1, 1, OTHER);
        Edges.canonBounds("first", (x, v) -> x.two(v, 0, NONE), OTHER);
        Edges.canonBounds("second", (x, v) -> x.two(0, v, NONE), OTHER);
        for (int k : new int[] {-2, -3, Integer.MIN_VALUE}) {
            Edges.refused("k " + k, Edges::roomy, x -> x.two(0, 1, k), OTHER, Edges.AS_BAD);
        }
        int[][] want = {{NONE, 2}, {0, 1}, {1, 7}, {2, NOT_SO_MANY}, {3, NOT_SO_MANY}, {49, NOT_SO_MANY},
            {Integer.MAX_VALUE, NOT_SO_MANY}};
        for (int[] row : want) {
            Edges.asks("two(0, 1, " + row[0] + ")", Edges::roomy, x -> x.two(0, 1, row[0]), row[1]);
        }
        for (int c = 0; c < 5; c++) {
            int who = c;
            Edges.refused("alike " + c, Edges::full, x -> x.two(who, who, 0), OTHER, Edges.AS_BAD);
        }
        Edges.refused("alike and NONE", Edges::roomy, x -> x.two(1, 1, NONE), OTHER, Edges.AS_BAD);
        Edges.refused("nobody", Edges::empty, x -> x.two(0, 1, NONE), OTHER, Edges.AS_BAD);
    }

    private static void p35FewSeats() {
        Check.promise("promise 35, few seats");
        Edges.asks("no seats: how many", Edges::canonsAlone, x -> x.two(0, 1, NONE), 0);
        Edges.asks("no seats: the first", Edges::canonsAlone, x -> x.two(0, 1, 0), NOT_SO_MANY);
        SeatScene x = Edges.canonsAlone();
        x.seat(0, 0, 40);
        due("one seat: how many", x.two(0, 1, NONE), 1);
        due("one seat: both on it", x.two(0, 1, 0), 0);
        due("one seat: no second", x.two(0, 1, 1), NOT_SO_MANY);
        x.seat(0, 1, 4);
        due("two seats", x.two(0, 1, NONE), 2);
        due("each on one", x.two(0, 1, 0), 1);
        due("each on the other", x.two(0, 1, 1), 7);
    }

    private static void p35Seven() {
        Check.promise("promise 35, seven seats");
        SeatScene x = new SeatScene();
        for (int s = 0; s < 7; s++) {
            x.seat(0, s % 4, 3);
        }
        for (int c = 0; c < 5; c++) {
            x.canon(0, 1);
            x.sits(c, c);
        }
        due("nothing to be had: all rest", x.two(3, 4, NONE), 49);
        for (int k = 0; k < 49; k++) {
            due("the pair " + k, x.two(3, 4, k), k);
        }
        due("no more", x.two(3, 4, 49), NOT_SO_MANY);
        x.chapter();
        for (int s = 0; s < 7; s++) {
            x.seat(0, 0, 40);
        }
        x.canon(0, 1);
        x.canon(0, 1);
        due("all alike: on unlike ones they rest", x.two(0, 1, NONE), 42);
        due("the first", x.two(0, 1, 0), 1);
        due("the sixth", x.two(0, 1, 5), 6);
        due("the seventh", x.two(0, 1, 6), 7);
        due("the eighth, past 1 and 1", x.two(0, 1, 7), 9);
        due("the last", x.two(0, 1, 41), 47);
        due("no more", x.two(0, 1, 42), NOT_SO_MANY);
    }

    private static void p35Rests() {
        Check.promise("promise 35, what rests");
        // the first would take 10, 10, 9, the second 5, 5, 4
        SeatScene x = new SeatScene();
        x.seat(0, 0, 40);
        x.seat(0, 1, 40);
        x.seat(0, 2, 36);
        x.canon(0, 1);
        x.canon(1, 1);
        due("as much elsewhere is not more", x.two(0, 1, NONE), 2);
        due("0 and 1", x.two(0, 1, 0), 1);
        due("1 and 0", x.two(0, 1, 1), 7);
        x.canon(0, 1);
        x.sits(2, 0);
        due("all others gone", x.two(0, 1, 0), 1);
        x.sits(0, 2);
        due("wherever they sit now", x.two(0, 1, 0), 1);
        // 10, 20 of a gilt one (in an odd year 10), 9; a deacon takes nothing, and rests anywhere
        x = new SeatScene();
        x.seat(0, 0, 40);
        x.seat(4, 1, 40);
        x.seat(0, 2, 36);
        x.canon(0, 1);
        x.canon(3, 1);
        due("he on the gilt one, or the deacon", x.two(0, 1, NONE), 3);
        due("0 and 1", x.two(0, 1, 0), 1);
        due("1 and 0", x.two(0, 1, 1), 7);
        due("1 and 2", x.two(0, 1, 2), 9);
        x.year(1);
        due("in an odd year", x.two(0, 1, NONE), 4);
        due("0 and 2", x.two(0, 1, 1), 2);
        // one who has 99 would take yet
        x = new SeatScene();
        x.seat(2, 0, 40);
        x.seat(0, 1, 4);
        x.canon(0, 1);
        x.canon(0, 1);
        x.sits(0, 0);
        x.year(30);
        due("not cut by the 99", x.two(0, 1, 0), 1);
        due("both ways rest", x.two(0, 1, NONE), 2);
    }

    // ---- promise 36

    private static void p36Left() {
        Check.promise("promise 36, left");
        Edges.doBounds("k", (x, v) -> x.left(v, 1, 5), 0, 1, 5, 1, BAD);
        Edges.doBounds("m", (x, v) -> x.left(1, v, 5), 0, 1, 3, 1, BAD);
        Edges.doBounds("c", (x, v) -> x.left(1, 1, v), 0, 1, 10, 1, BAD);
        Edges.bad("k in the empty chapter", Edges::empty, x -> x.left(6, 0, 0));
        Edges.bad("m in the empty chapter", Edges::empty, x -> x.left(0, 4, 0));
        Edges.bad("c in the empty chapter", Edges::empty, x -> x.left(0, 0, 11));
        SeatScene x = Edges.roomy();
        x.left(6, 1, 5);
        due("above stays", x.part(0), 3);
        due("below stays", x.part(1), 4);
        fraction(x, 3, 0, 0, 0, 1);
        fraction(x, 2, 0, 10, 1, 1);
        fraction(x, 2, 3, 0, 1, 1);
        fraction(x, 1, 1, 10, 0, 1);
        fraction(x, 0, 3, 10, 1, 1);
        fraction(x, 1, 1, 1, 99, 100);
        fraction(x, 2, 1, 1, 81, 100);
        fraction(x, 1, 1, 9, 19, 100);
        fraction(x, 2, 3, 9, 1, 1000000);
        due("it changes no more", x.count(9), 3);
    }

    private static void fraction(SeatScene x, int k, int m, int c, long above, long below) {
        String call = "left(" + k + ", " + m + ", " + c + ")";
        due(call, x.left(k, m, c), 1);
        due("above of " + call, x.part(0), above);
        due("below of " + call, x.part(1), below);
    }

    /** All that may be asked, of no canon and of each number of canons: by adding up who is left one by one. */
    private static void p36All() {
        Check.promise("promise 36, all");
        for (int canons = 0; canons <= 5; canons++) {
            for (int m = 0; m <= 3; m++) {
                for (int c = 0; c <= 10; c++) {
                    SeatScene x = new SeatScene();
                    for (int i = 0; i < canons; i++) {
                        x.canon(i, 9);
                    }
                    for (int k = 0; k <= 5; k++) {
                        BigInteger top = waysLeft(canons, k, BigInteger.valueOf(10 - c).pow(m), BigInteger.TEN.pow(m));
                        BigInteger bottom = BigInteger.TEN.pow(m * canons);
                        BigInteger common = top.gcd(bottom);
                        fraction(x, k, m, c, top.divide(common).longValue(), bottom.divide(common).longValue());
                    }
                }
            }
        }
    }

    /** How many of all ways (all to the canons) leave k or more: the last one lives or dies, then the others. */
    private static BigInteger waysLeft(int canons, int k, BigInteger lives, BigInteger all) {
        if (canons == 0) {
            return k <= 0 ? BigInteger.ONE : BigInteger.ZERO;
        }
        return lives.multiply(waysLeft(canons - 1, k - 1, lives, all))
                .add(all.subtract(lives).multiply(waysLeft(canons - 1, k, lives, all)));
    }

    private static void p36Lowest() {
        Check.promise("promise 36, lowest terms");
        SeatScene x = new SeatScene();
        due("0 by 1 at first", x.part(0) * 10 + x.part(1), 1);
        fraction(x, 0, 3, 5, 1, 1);
        fraction(x, 1, 3, 5, 0, 1);
        for (int i = 0; i < 5; i++) {
            x.canon(0, 1);
        }
        fraction(x, 5, 3, 9, 1, 1000000000000000L);
        fraction(x, 5, 3, 5, 1, 32768);
        fraction(x, 5, 1, 8, 1, 3125);
        fraction(x, 5, 1, 0, 1, 1);
        fraction(x, 5, 1, 10, 0, 1);
        // 1 less 9 to the fifth by 10 to the fifth
        fraction(x, 1, 1, 9, 40951, 100000);
    }

    // ---- promise 37

    private static void p37Years() {
        Check.promise("promise 37, years");
        Edges.askBounds("seed", (x, v) -> x.years(v, 1), 0, 2, 999999, 2, BAD);
        Edges.askBounds("years", (x, v) -> x.years(5, v), 0, 2, 60, 2, BAD);
        Edges.bad("seed in the empty chapter", Edges::empty, x -> x.years(1000000, 0));
        Edges.bad("years in the empty chapter", Edges::empty, x -> x.years(0, 61));
        Edges.asks("nobody", Edges::seatsAlone, x -> x.years(999999, 60), 0);
        Edges.asks("no seats", Edges::canonsAlone, x -> x.years(999999, 60), 0);
        Edges.asks("the greatest of both", Edges::roomy, x -> x.years(999999, 60), 2);
    }

    /** Hands of 40 for two, a mermaid; kinds that take unlike much; some on none. */
    private static SeatScene company(int canons) {
        SeatScene x = new SeatScene();
        x.seat(5, 0, 12);
        x.seat(2, 1, 9);
        x.seat(3, 2, 40);
        int[] kinds = {3, 0, 1, 4, 5};
        for (int c = 0; c < canons; c++) {
            x.canon(kinds[c], 9 - c);
        }
        for (int c = 0; c < canons && c < 3; c++) {
            x.sits(c, 2 - c);
        }
        return x;
    }

    /** The same by the calls swap and year, on an object of its own. */
    private static int told(int canons, long seed, int n) {
        SeatScene x = company(canons);
        BigInteger all = BigInteger.valueOf(2147483648L);
        BigInteger at = BigInteger.valueOf(seed);
        int doers = 0;
        for (int i = 0; i < n; i++) {
            at = at.multiply(BigInteger.valueOf(1103515245)).add(BigInteger.valueOf(12345)).mod(all);
            int a = at.divide(BigInteger.valueOf(65536)).mod(BigInteger.valueOf(5)).intValue();
            int b = at.divide(BigInteger.valueOf(1048576)).mod(BigInteger.valueOf(5)).intValue();
            if (a < canons && b < canons && a != b) {
                x.swap(a, b);
            }
            doers = x.year(1);
        }
        return doers;
    }

    private static void p37Seeds() {
        Check.promise("promise 37, seeds");
        int[] years = {0, 1, 2, 3, 5, 8, 13, 59, 60};
        int[] seeds = {0, 1, 2, 65535, 65536, 499999, 500000, 999998, 999999};
        for (int canons = 0; canons <= 5; canons++) {
            int met = 0;
            for (int seed : seeds) {
                for (int n : years) {
                    int want = told(canons, seed, n);
                    due(canons + ": years(" + seed + ", " + n + ")", company(canons).years(seed, n), want);
                }
            }
            for (int seed = 1000; seed < 1000000; seed += 4447) {
                int want = told(canons, seed, 5);
                due(canons + ": years(" + seed + ", 5)", company(canons).years(seed, 5), want);
                met |= 1 << want;
            }
            Check.holds("the seeds tell more than one story of " + canons, canons < 3 || Integer.bitCount(met) > 1);
        }
    }

    /** The change comes ahead of the year: a deacon sits, and takes nothing, unless another has changed with him. */
    private static void p37Ahead() {
        Check.promise("promise 37, ahead of each year");
        int changed = 0;
        for (int seed = 0; seed < 400; seed++) {
            long at = (seed * 1103515245L + 12345L) % 2147483648L;
            long a = at / 65536 % 5;
            long b = at / 1048576 % 5;
            boolean his = a == 0 && b == 1 || a == 1 && b == 0;
            SeatScene x = new SeatScene();
            x.seat(0, 0, 40);
            x.canon(3, 1);
            x.canon(0, 1);
            x.sits(0, 0);
            due("years(" + seed + ", 1)", x.years(seed, 1), his ? 1 : 0);
            due("he sits yet", x.about(0, 2), 0);
            changed += his ? 1 : 0;
        }
        Check.holds("some change, some do not", changed > 0 && changed < 400);
    }

    /** Seeds by which X lies just at, below or above a multiple of 1048576, of 65536, of 2147483648. */
    private static final int[] CUT = {501379, 899870, 102888, 42627, 108163, 173699, 239235, 304771, 47902, 113438, 178974,
        244510, 388515, 984577, 51463, 647525, 518020, 0, 1, 2, 999999};

    /** One year: of five, one who takes sits alone among deacons; he takes unless he is one of the two who change. */
    private static void p37Cut() {
        Check.promise("promise 37, what is cut and left over");
        for (int seed : CUT) {
            BigInteger[] next = BigInteger.valueOf(seed).multiply(BigInteger.valueOf(1103515245))
                    .add(BigInteger.valueOf(12345)).divideAndRemainder(BigInteger.valueOf(2147483648L));
            int a = next[1].divide(BigInteger.valueOf(65536)).mod(BigInteger.valueOf(5)).intValue();
            int b = next[1].divide(BigInteger.valueOf(1048576)).mod(BigInteger.valueOf(5)).intValue();
            for (int he = 0; he < 5; he++) {
                SeatScene x = new SeatScene();
                x.seat(0, 0, 40);
                for (int c = 0; c < 5; c++) {
                    x.canon(c == he ? 0 : 3, 1);
                }
                x.sits(he, 0);
                due("years(" + seed + ", 1) of " + he, x.years(seed, 1), a != b && (a == he || b == he) ? 0 : 1);
            }
        }
    }
}
