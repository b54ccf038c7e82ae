/** The boundaries of promises 15 to 26: what is taken, ahead and by wishes; quarrels, the row, a blur. */
final class TakenEdges {
    private static final int OTHER = -10;
    private static final int NONE = SeatScene.NONE;
    private static final int BAD = SeatScene.BAD;

    private TakenEdges() {
    }

    public static void main(String[] args) {
        p15Takes();
        p15NotCut();
        p16Then();
        p17Depth();
        p18When();
        p18Sixty();
        p19First();
        p19Sixty();
        p19Does();
        p20Blank();
        p20Kinds();
        p21Place();
        p21Held();
        p21Sixty();
        p22Wish();
        p23Seating();
        p23Years();
        p23FewSeats();
        p23First();
        p23Most();
        p24Quarrels();
        p25Row();
        p25None();
        p26Blur();
        p26Depths();
        Check.close("TakenEdges");
    }

    private static void due(String call, long got, long want) {
        Check.due(call, got, want);
    }

    /** A canon (plain, 1) who takes 1 a year, of trait 0, from a seat that is not worn. */
    private static SeatScene slow() {
        SeatScene x = new SeatScene();
        x.seat(0, 0, 4);
        x.seat(0, 1, 4);
        x.canon(0, 1);
        x.sits(0, 0);
        return x;
    }

    // ---- promise 15

    private static void p15Takes() {
        Check.promise("promise 15, takes");
        Edges.askBounds("canon", (x, v) -> x.takes(v, 0), 0, 9, 1, 10, BAD);
        Edges.askBounds("seat", (x, v) -> x.takes(1, v), 0, 10, 2, 3, BAD);
        Edges.canonBounds("canon", (x, v) -> x.takes(v, 0), BAD);
        Edges.seatBounds("seat", (x, v) -> x.takes(0, v), BAD);
        Edges.bad("on none", Edges::full, x -> x.takes(0, NONE));
        int[][] want = {{9, 10, 4}, {10, 11, 3}};
        for (int c = 0; c < 2; c++) {
            for (int s = 0; s < 3; s++) {
                int who = c;
                int on = s;
                Edges.asks("takes(" + c + ", " + s + ")", Edges::roomy, x -> x.takes(who, on), want[c][s]);
            }
        }
        SeatScene x = Edges.roomy();
        x.sits(0, NONE);
        due("one on none", x.takes(0, 0), 9);
        x.seat(0, 3, 0);
        due("a seat of depth 0", x.takes(0, 3), 0);
    }

    private static void p15NotCut() {
        Check.promise("promise 15, not cut by the 99");
        SeatScene x = new SeatScene();
        x.seat(2, 0, 40);
        x.seat(5, 0, 40);
        x.seat(0, 0, 3);
        x.canon(0, 1);
        x.sits(0, 0);
        x.year(30);
        due("taken 99", x.taken(0, 0), 99);
        due("twenty more", x.takes(0, 0), 20);
        due("ten and a fifth of 99", x.takes(0, 1), 29);
        due("nothing", x.takes(0, 2), 0);
        x.canon(2, 1);
        due("the most that there is: young, of 20", x.takes(1, 0), 21);
    }

    // ---- promise 16

    private static void p16Then() {
        Check.promise("promise 16, then");
        Edges.askBounds("years", (x, v) -> x.then(0, 0, v), 0, 10, 60, 67, BAD);
        Edges.askBounds("canon", (x, v) -> x.then(v, 2, 1), 0, 0, 1, 22, BAD);
        Edges.askBounds("trait", (x, v) -> x.then(0, v, 1), 0, 19, 3, 0, BAD);
        Edges.canonBounds("canon", (x, v) -> x.then(v, 0, 0), BAD);
        Edges.asks("99 at most", Edges::roomy, x -> x.then(1, 2, 8), 99);
        Edges.asks("99 yet", Edges::roomy, x -> x.then(1, 2, 60), 99);
        Edges.asks("88 ahead of it", Edges::roomy, x -> x.then(1, 2, 7), 88);
        Edges.asks("on none nothing", Edges::canonsAlone, x -> x.then(1, 3, 60), 0);
        for (int n = 0; n <= 60; n++) {
            int years = n;
            Edges.asks("one a year: " + n, TakenEdges::slow, x -> x.then(0, 0, years), n);
            Edges.asks("of the other trait: " + n, TakenEdges::slow, x -> x.then(0, 1, years), 0);
        }
        SeatScene x = Edges.full();
        x.year(30);
        x.year(30);
        SeatScene y = Edges.full();
        for (int c = 0; c < 5; c++) {
            for (int t = 0; t < 4; t++) {
                due("then(" + c + ", " + t + ", 60)", y.then(c, t, 60), x.taken(c, t));
            }
        }
    }

    // ---- promise 17

    private static void p17Depth() {
        Check.promise("promise 17, depth");
        Edges.askBounds("years", (x, v) -> x.depth(0, v), 0, 37, 60, 0, BAD);
        Edges.askBounds("seat", (x, v) -> x.depth(v, 1), 0, 34, 2, 8, BAD);
        Edges.seatBounds("seat", (x, v) -> x.depth(v, 0), BAD);
        Edges.asks("one left", Edges::roomy, x -> x.depth(0, 12), 1);
        Edges.asks("0 at least", Edges::roomy, x -> x.depth(0, 13), 0);
        Edges.asks("0 yet", Edges::roomy, x -> x.depth(0, 14), 0);
        Edges.asks("not worn by one so light", Edges::roomy, x -> x.depth(1, 60), 20);
        Edges.asks("on which none sits", Edges::seatsAlone, x -> x.depth(1, 60), 20);
        // worn by 1 a year
        SeatScene x = new SeatScene();
        x.seat(0, 0, 40);
        x.canon(0, 3);
        x.sits(0, 0);
        for (int n = 0; n <= 60; n++) {
            due("depth(0, " + n + ")", x.depth(0, n), Math.max(40 - n, 0));
        }
    }

    // ---- promise 18

    private static void p18When() {
        Check.promise("promise 18, when");
        Edges.askBounds("x", (x, v) -> x.when(0, 0, v), 1, 0, 99, NONE, BAD);
        Edges.askBounds("x of the second", (x, v) -> x.when(1, 2, v), 1, 0, 99, 8, BAD);
        Edges.askBounds("canon", (x, v) -> x.when(v, 0, 11), 0, 1, 1, NONE, BAD);
        Edges.askBounds("trait", (x, v) -> x.when(0, v, 10), 0, 0, 3, NONE, BAD);
        Edges.canonBounds("canon", (x, v) -> x.when(v, 0, 99), BAD);
        int[][] want = {{9, 0}, {10, 0}, {11, 1}, {19, 1}, {20, 2}, {27, 2}, {28, 3}, {66, 11}, {67, 12}, {68, NONE}};
        for (int[] row : want) {
            Edges.asks("when(0, 0, " + row[0] + ")", Edges::roomy, x -> x.when(0, 0, row[0]), row[1]);
        }
        Edges.asks("one on none", Edges::canonsAlone, x -> x.when(0, 0, 1), NONE);
        SeatScene x = Edges.roomy();
        x.sits(0, NONE);
        due("one on none has it yet", x.when(0, 0, 10), 0);
        due("but no more", x.when(0, 0, 11), NONE);
    }

    private static void p18Sixty() {
        Check.promise("promise 18, 60 years");
        for (int much = 1; much <= 99; much++) {
            int n = much;
            Edges.asks("when(0, 0, " + n + ")", TakenEdges::slow, x -> x.when(0, 0, n), n <= 60 ? n : NONE);
        }
        SeatScene x = slow();
        x.year(30);
        x.year(9);
        due("99 behind 60 more", x.when(0, 0, 99), 60);
        x.undo();
        x.year(8);
        due("98 behind 60 more", x.when(0, 0, 98), 60);
        due("99 behind 61", x.when(0, 0, 99), NONE);
    }

    // ---- promise 19

    private static void p19First() {
        Check.promise("promise 19, first");
        Edges.askBounds("trait", (x, v) -> x.first(v, 0), 0, 0, 3, NONE, BAD);
        Edges.askBounds("what", (x, v) -> x.first(2, v), 0, 1, 1, 0, BAD);
        Edges.bad("trait 4 in the empty chapter", Edges::empty, x -> x.first(4, 0));
        Edges.bad("what 2 in the empty chapter", Edges::empty, x -> x.first(0, 2));
        for (int t = 0; t < 4; t++) {
            int of = t;
            Edges.asks("no canon, " + t, Edges::seatsAlone, x -> x.first(of, 0), NONE);
            Edges.asks("none who sits, " + t, Edges::canonsAlone, x -> x.first(of, 1), NONE);
        }
        // 9, 10, 10, 5, 20 a year of one trait: the last and two others in the first year
        SeatScene x = new SeatScene();
        int[] depths = {36, 40, 40, 20, 40};
        for (int c = 0; c < 5; c++) {
            x.seat(c == 4 ? 2 : 0, 1, depths[c]);
            x.canon(0, 1);
            x.sits(c, c);
        }
        due("of like ones the least", x.first(1, 0), 1);
        due("behind one year", x.first(1, 1), 1);
        x.sits(1, NONE);
        due("the next", x.first(1, 0), 2);
        x.sits(2, NONE);
        due("the last", x.first(1, 0), 4);
        x.sits(4, NONE);
        due("nine twice", x.first(1, 1), 2);
        due("the least of 9, 5 twice", x.first(1, 0), 0);
        x.sits(0, NONE);
        due("the fourth", x.first(1, 0), 3);
        x.sits(3, NONE);
        due("none", x.first(1, 0), NONE);
        due("none at all", x.first(1, 1), NONE);
    }

    /** One who has taken so much of trait 1, and takes 1 a year of trait 0 from now on. */
    private static SeatScene turned(int had) {
        SeatScene x = slow();
        x.sits(0, 1);
        for (int i = 0; i < had; i++) {
            x.year(1);
        }
        x.sits(0, 0);
        return x;
    }

    private static void p19Sixty() {
        Check.promise("promise 19, 60 years");
        for (int had : new int[] {0, 9, 10, 11, 12, 58, 59, 60}) {
            int n = Math.max(had, 10);
            due("behind " + n, turned(had).first(0, 1), n);
            due("he", turned(had).first(0, 0), 0);
        }
        due("behind 61: when", turned(61).first(0, 1), NONE);
        due("behind 61: who", turned(61).first(0, 0), NONE);
        due("what he did till then", turned(61).first(1, 1), 0);
    }

    /** To have taken ten is not to do it: it must be what one has taken most. */
    private static void p19Does() {
        Check.promise("promise 19, does");
        SeatScene x = turned(15);
        x.year(12);
        due("12 of 0, 15 of 1", x.first(0, 1), 3);
        due("the other now", x.first(1, 1), 0);
        x.year(2);
        due("14 and 15", x.first(0, 1), 1);
        x.year(1);
        due("15 and 15: the lesser trait", x.first(0, 1), 0);
        due("and not the other, ever", x.first(1, 1), NONE);
    }

    // ---- promise 20

    private static void p20Blank() {
        Check.promise("promise 20, blank");
        Edges.askBounds("seat", (x, v) -> x.blank(v), 0, 12, 2, NONE, BAD);
        Edges.seatBounds("seat", (x, v) -> x.blank(v), BAD);
        for (int d = 0; d <= 40; d++) {
            SeatScene x = new SeatScene();
            x.seat(0, 0, d);
            due("worn by none, " + d, x.blank(0), d <= 3 ? 0 : NONE);
            x.canon(0, 3);
            x.sits(0, 0);
            due("worn by 1, " + d, x.blank(0), Math.max(d - 3, 0));
        }
        SeatScene x = new SeatScene();
        x.seat(0, 0, 40);
        x.canon(3, 9);
        x.sits(0, 0);
        // 34, 28, 22, 16, 10, 4, 0
        due("worn by 6", x.blank(0), 7);
    }

    private static void p20Kinds() {
        Check.promise("promise 20, kinds");
        // of depth 3, 4, 11, 12: blank now to one who has taken 0, or not at all (worn by none)
        int[][] blank = {{0, NONE, NONE, NONE}, {0, NONE, NONE, NONE}, {0, NONE, NONE, NONE}, {0, 0, 0, NONE},
            {0, NONE, NONE, NONE}, {0, NONE, NONE, NONE}};
        int[] depths = {3, 4, 11, 12};
        for (int kind = 0; kind < 6; kind++) {
            for (int i = 0; i < 4; i++) {
                SeatScene x = new SeatScene();
                x.seat(kind, 0, depths[i]);
                due("kind " + kind + " of " + depths[i], x.blank(0), blank[kind][i]);
            }
        }
        SeatScene x = new SeatScene();
        x.seat(5, 0, 3);
        x.seat(2, 0, 40);
        x.canon(0, 1);
        x.sits(0, 1);
        x.year(5);
        x.sits(0, 0);
        due("hands give him 19", x.takes(0, 0), 19);
        due("but 0 to one who has taken 0", x.blank(0), 0);
    }

    // ---- promise 21

    private static void p21Place() {
        Check.promise("promise 21, place");
        Edges.askBounds("x", (x, v) -> x.place(0, 0, v, 0), 1, 0, 99, 2, BAD);
        Edges.askBounds("x, when", (x, v) -> x.place(0, 0, v, 1), 1, 0, 99, 10, BAD);
        Edges.askBounds("what", (x, v) -> x.place(1, 2, 99, v), 0, 1, 1, 8, BAD);
        Edges.askBounds("canon", (x, v) -> x.place(v, 2, 11, 0), 0, NONE, 1, 1, BAD);
        Edges.askBounds("trait", (x, v) -> x.place(0, v, 11, 1), 0, 1, 3, NONE, BAD);
        Edges.canonBounds("canon", (x, v) -> x.place(v, 0, 99, 0), BAD);
        Edges.asks("no seats", Edges::canonsAlone, x -> x.place(0, 0, 1, 0), NONE);
        Edges.asks("no seats, when", Edges::canonsAlone, x -> x.place(0, 0, 1, 1), NONE);
        SeatScene x = Edges.roomy();
        x.sits(0, NONE);
        due("had already: the least that is free", x.place(0, 0, 10, 0), 0);
        due("had already: now", x.place(0, 0, 10, 1), 0);
        x.sits(1, 0);
        due("the first is held", x.place(0, 0, 10, 0), 1);
        due("for 11: hands", x.place(0, 0, 11, 0), 2);
        due("behind a year", x.place(0, 0, 11, 1), 1);
    }

    private static void p21Held() {
        Check.promise("promise 21, on which no other one sits");
        SeatScene x = new SeatScene();
        for (int s = 0; s < 7; s++) {
            x.seat(0, 1, s == 6 ? 40 : 20);
        }
        for (int c = 0; c < 5; c++) {
            x.canon(0, 1);
            x.sits(c, c);
        }
        due("the last one is soonest", x.place(2, 1, 10, 0), 6);
        due("in one year", x.place(2, 1, 10, 1), 1);
        due("of like ones the least: his own", x.place(2, 1, 5, 0), 2);
        x.sits(4, 6);
        due("held now; his own", x.place(2, 1, 10, 0), 2);
        due("two years", x.place(2, 1, 10, 1), 2);
        x.sits(2, NONE);
        due("on none now: that one yet", x.place(2, 1, 10, 0), 2);
        x.sits(3, 2);
        due("the one that the other left", x.place(2, 1, 10, 0), 3);
        SeatScene y = new SeatScene();
        y.seat(2, 0, 40);
        y.canon(0, 1);
        y.canon(0, 1);
        y.sits(0, 0);
        y.year(1);
        y.swap(0, 1);
        due("no free seat, though he has it", y.place(0, 0, 20, 0), NONE);
        due("when", y.place(0, 0, 20, 1), NONE);
        due("the other's own", y.place(1, 0, 20, 0), 0);
    }

    private static void p21Sixty() {
        Check.promise("promise 21, 60 years");
        for (int much = 1; much <= 99; much++) {
            int n = much;
            Edges.asks("place(0, 0, " + n + ", 1)", TakenEdges::slow, x -> x.place(0, 0, n, 1), n <= 60 ? n : NONE);
            Edges.asks("place(0, 1, " + n + ", 0)", TakenEdges::slow, x -> x.place(0, 1, n, 0), n <= 60 ? 1 : NONE);
        }
    }

    // ---- promise 22

    private static void p22Wish() {
        Check.promise("promise 22, wish");
        Edges.doBounds("canon", (x, v) -> x.wish(v, 0, 0), 0, 2, 1, 2, BAD);
        Edges.doBounds("trait", (x, v) -> x.wish(0, v, 0), 0, 2, 3, 2, BAD);
        Edges.doBounds("x", (x, v) -> x.wish(0, 0, v), 0, 2, 99, 2, BAD);
        SeatScene x = Edges.roomy();
        x.forget(0);
        for (int i = 1; i <= 6; i++) {
            due("wish " + i, x.wish(1, 3, 99), i);
            due("count(6)", x.count(6), i);
        }
        due("a seventh", x.wish(1, 3, 99), SeatScene.FULL);
        Edges.refused("a seventh", Edges::full, y -> y.wish(0, 0, 0), SeatScene.FULL, Edges.AS_FULL);
        Edges.bad("BAD canon ahead of FULL", Edges::full, y -> y.wish(5, 0, 0));
        Edges.bad("BAD trait ahead of FULL", Edges::full, y -> y.wish(0, 4, 0));
        Edges.bad("BAD x ahead of FULL", Edges::full, y -> y.wish(0, 0, 100));
        Edges.bad("no canon", Edges::empty, y -> y.wish(0, 0, 0));
        Edges.bad("no canon, seats", Edges::seatsAlone, y -> y.wish(0, 0, 0));
        due("notes have room yet", x.note(0, 0, 0, 0, 0), 2);
        x.forget(0);
        due("room again", x.wish(0, 0, 0), 1);
    }

    // ---- promise 23

    private static void p23Seating() {
        Check.promise("promise 23, seating");
        Edges.askBounds("years", (x, v) -> x.seating(v, NONE), 0, 0, 12, 1, OTHER);
        Edges.askBounds("canon", (x, v) -> x.seating(2, v), NONE, 1, 1, NONE, OTHER);
        Edges.canonBounds("canon", (x, v) -> x.seating(1, v), OTHER);
        Edges.refused("both wrong", Edges::full, x -> x.seating(13, 5), OTHER, Edges.AS_BAD);
        Edges.refused("13 years of nobody", Edges::empty, x -> x.seating(13, NONE), OTHER, Edges.AS_BAD);
        Edges.asks("nobody", Edges::seatsAlone, x -> x.seating(12, NONE), 0);
        Edges.asks("no wishes", Edges::canonsAlone, x -> x.seating(12, NONE), 0);
        Edges.asks("no wishes: on none", Edges::canonsAlone, x -> x.seating(12, 1), NONE);
        Edges.asks("he who wishes", Edges::roomy, x -> x.seating(2, 0), 0);
        Edges.asks("he who does not", Edges::roomy, x -> x.seating(2, 1), NONE);
        SeatScene x = Edges.canonsAlone();
        x.wish(0, 0, 0);
        x.wish(1, 3, 0);
        x.wish(1, 3, 1);
        due("0 is so by itself", x.seating(0, NONE), 2);
        due("no seats", x.seating(12, NONE), 2);
        due("on none", x.seating(12, 0), NONE);
        SeatScene y = Edges.roomy();
        y.wish(1, 2, 11);
        due("had already", y.seating(0, NONE), 1);
        due("he may sit on none", y.seating(0, 1), NONE);
        y.wish(1, 2, 12);
        due("one less than wished", y.seating(0, NONE), 1);
        due("in a year", y.seating(1, NONE), 2);
        due("where he sits", y.seating(1, 1), 1);
    }

    private static void p23Years() {
        Check.promise("promise 23, n years");
        for (int n = 0; n <= 12; n++) {
            SeatScene x = slow();
            x.wish(0, 0, n);
            due("wished " + n + ", behind " + n, x.seating(n, NONE), 1);
            due("where", x.seating(n, 0), n == 0 ? NONE : 0);
            x.wish(0, 1, n + 1);
            due("one more, not behind " + n, x.seating(n, NONE), 1);
            x.forget(0);
            x.wish(0, 1, n + 1);
            due("one more alone", x.seating(n, NONE), 0);
            due("nobody sits for it", x.seating(n, 0), NONE);
        }
        // 99 is reached by a cut
        SeatScene x = new SeatScene();
        x.seat(2, 0, 40);
        x.canon(0, 1);
        x.wish(0, 0, 99);
        due("80 behind 4", x.seating(4, NONE), 0);
        due("99 behind 5", x.seating(5, NONE), 1);
        due("99 behind 12", x.seating(12, NONE), 1);
    }

    private static void p23FewSeats() {
        Check.promise("promise 23, more canons than seats");
        SeatScene x = new SeatScene();
        x.seat(0, 0, 40);
        for (int c = 0; c < 5; c++) {
            x.canon(0, 1);
            x.wish(c, 0, 1);
        }
        x.sits(0, 0);
        due("one of five", x.seating(1, NONE), 1);
        int[] way = {NONE, NONE, NONE, NONE, 0};
        for (int c = 0; c < 5; c++) {
            due("the last alone: " + c, x.seating(1, c), way[c]);
        }
        x.wish(2, 0, 10);
        due("two of his", x.seating(1, NONE), 2);
        due("so he sits", x.seating(1, 2), 0);
        due("and the last on none", x.seating(1, 4), NONE);
    }

    /** Of the ways by which as many wishes come true the first, canon by canon, none being less than seat 0. */
    private static void p23First() {
        Check.promise("promise 23, the first such way");
        SeatScene x = new SeatScene();
        for (int s = 0; s < 7; s++) {
            x.seat(0, 0, 40);
        }
        for (int c = 0; c < 5; c++) {
            x.canon(0, 1);
            x.wish(c, 0, 10);
        }
        for (int c = 0; c < 5; c++) {
            x.sits(c, 6 - c);
        }
        due("all five", x.seating(1, NONE), 5);
        for (int c = 0; c < 5; c++) {
            due("in their order: " + c, x.seating(1, c), c);
        }
        x.forget(0);
        x.wish(0, 0, 10);
        x.wish(4, 0, 10);
        due("two of five", x.seating(1, NONE), 2);
        int[] way = {0, NONE, NONE, NONE, 1};
        for (int c = 0; c < 5; c++) {
            due("the others on none: " + c, x.seating(1, c), way[c]);
        }
        x.chapter();
        // only the last seat serves the first canon, the first two serve both
        x.seat(0, 0, 20);
        x.seat(0, 0, 20);
        x.seat(0, 0, 40);
        x.canon(0, 1);
        x.canon(0, 1);
        x.wish(0, 0, 10);
        x.wish(1, 0, 5);
        due("both", x.seating(1, NONE), 2);
        due("he on the last", x.seating(1, 0), 2);
        due("the other on the first", x.seating(1, 1), 0);
    }

    private static void p23Most() {
        Check.promise("promise 23, most wishes");
        SeatScene x = new SeatScene();
        for (int s = 0; s < 7; s++) {
            x.seat(0, s % 4, 40);
        }
        for (int c = 0; c < 5; c++) {
            x.canon(0, 1);
        }
        for (int i = 1; i <= 6; i++) {
            x.wish(3, 2, i);
            due("all of one canon's", x.seating(1, NONE), i);
        }
        due("on the first of that trait", x.seating(1, 3), 2);
        due("the next on none", x.seating(1, 4), NONE);
        x.forget(0);
        // one canon cannot take of two traits by one seat
        x.wish(0, 0, 1);
        x.wish(0, 1, 1);
        x.wish(1, 1, 1);
        x.wish(1, 2, 1);
        x.wish(1, 2, 10);
        x.wish(1, 2, 11);
        due("one of two, two of four", x.seating(1, NONE), 3);
        due("the first on 0", x.seating(1, 0), 0);
        due("the second on 2", x.seating(1, 1), 2);
        due("in two years", x.seating(2, NONE), 4);
    }

    // ---- promise 24

    private static SeatScene row(int... traits) {
        SeatScene x = new SeatScene();
        for (int t : traits) {
            x.seat(0, t, 0);
        }
        return x;
    }

    private static void p24Quarrels() {
        Check.promise("promise 24, quarrels");
        Edges.asks("no seats", Edges::empty, x -> x.quarrels(), 0);
        Edges.asks("no seats, canons", Edges::canonsAlone, x -> x.quarrels(), 0);
        Edges.asks("two alike", Edges::seatsAlone, x -> x.quarrels(), 1);
        Edges.asks("preaching, the sea, preaching", Edges::roomy, x -> x.quarrels(), 0);
        Edges.asks("seven, four traits by turns", Edges::full, x -> x.quarrels(), 0);
        for (int n = 0; n <= 7; n++) {
            due(n + " alike", row(new int[n]).quarrels(), Math.max(n - 1, 0));
        }
        due("the ends are not next to one another", row(3, 1, 2, 0, 1, 2, 3).quarrels(), 0);
        due("the first two", row(3, 3, 2, 0, 1, 2, 3).quarrels(), 1);
        due("the last two", row(3, 1, 2, 0, 1, 3, 3).quarrels(), 1);
        due("three in the middle", row(0, 1, 2, 2, 2, 1, 0).quarrels(), 2);
    }

    // ---- promise 25

    private static void p25Row() {
        Check.promise("promise 25, row");
        Edges.askBounds("place", (x, v) -> x.row(v), 0, 0, 2, 2, BAD);
        Edges.seatBounds("place", (x, v) -> x.row(v), BAD);
        due("one seat", row(2).row(0), 0);
        order(row(0, 1), 0, 1);
        order(row(1, 0), 0, 1);
        order(row(0, 0, 1), 0, 2, 1);
        order(row(0, 1, 1), 1, 0, 2);
        order(row(1, 0, 1), 0, 1, 2);
        order(row(0, 1, 2, 3, 0, 1, 2), 0, 1, 2, 3, 4, 5, 6);
        // four of seven: one order of the traits alone
        order(row(0, 0, 0, 0, 1, 2, 3), 0, 4, 1, 5, 2, 6, 3);
        order(row(1, 2, 3, 0, 0, 0, 0), 3, 0, 4, 1, 5, 2, 6);
        order(row(1, 1, 1, 0, 0, 0, 0), 3, 0, 4, 1, 5, 2, 6);
        // three of five, last
        order(row(2, 2, 1, 1, 1), 2, 0, 3, 1, 4);
        // the first that fits leads astray: 0 1 2 leaves three alike
        order(row(0, 1, 3, 3, 3), 2, 0, 3, 1, 4);
        order(row(0, 1, 2, 3, 3, 3), 0, 3, 1, 4, 2, 5);
        Edges.asks("seven", Edges::full, x -> x.row(6), 6);
    }

    private static void order(SeatScene x, int... seats) {
        for (int i = 0; i < seats.length; i++) {
            due("row(" + i + ")", x.row(i), seats[i]);
        }
        due("row(" + seats.length + ")", x.row(seats.length), BAD);
        due("row(-1)", x.row(-1), BAD);
        due("counted", x.status(0), 2);
    }

    private static void p25None() {
        Check.promise("promise 25, no such order");
        order(row(1, 1), NONE, NONE);
        order(row(1, 1, 1), NONE, NONE, NONE);
        order(row(0, 2, 2, 2), NONE, NONE, NONE, NONE);
        order(row(0, 1, 0, 2, 0, 0), NONE, NONE, NONE, NONE, NONE, NONE);
        order(row(3, 3, 0, 3, 1, 3, 3), NONE, NONE, NONE, NONE, NONE, NONE, NONE);
        order(row(2, 2, 2, 2, 2, 2, 2), NONE, NONE, NONE, NONE, NONE, NONE, NONE);
        Edges.asks("two alike", Edges::seatsAlone, x -> x.row(0), NONE);
        Edges.asks("two alike, the last", Edges::seatsAlone, x -> x.row(1), NONE);
    }

    // ---- promise 26

    private static void p26Blur() {
        Check.promise("promise 26, blur");
        Edges.askBounds("seat", (x, v) -> x.blur(v, 1, 1, 1), 0, 37, 2, 8, BAD);
        Edges.askBounds("canon", (x, v) -> x.blur(0, v, 1, 1), 0, 40, 1, 37, BAD);
        Edges.askBounds("years", (x, v) -> x.blur(0, 0, v, 0), 0, 1, 20, 0, BAD);
        Edges.askBounds("what", (x, v) -> x.blur(0, 0, 1, v), 0, 1, 2, 40, BAD);
        Edges.seatBounds("seat", (x, v) -> x.blur(v, 0, 0, 0), BAD);
        Edges.canonBounds("canon", (x, v) -> x.blur(0, v, 0, 0), BAD);
        Edges.asks("the least", Edges::roomy, x -> x.blur(0, 0, 1, 1), 40);
        Edges.asks("43 is too deep: how many", Edges::roomy, x -> x.blur(0, 0, 2, 0), 0);
        Edges.asks("43 is too deep: the least", Edges::roomy, x -> x.blur(0, 0, 2, 1), NONE);
        Edges.asks("43 is too deep: the greatest", Edges::roomy, x -> x.blur(0, 0, 2, 2), NONE);
        Edges.asks("by one who sits elsewhere", Edges::roomy, x -> x.blur(0, 1, 20, 2), 37);
    }

    private static void blurs(int kind, int depth, int weight, int n, int many, int least, int greatest) {
        SeatScene x = new SeatScene();
        x.seat(kind, 0, depth);
        x.canon(0, weight);
        String name = kind + " of " + depth + " by " + weight + " for " + n;
        due("how many " + name, x.blur(0, 0, n, 0), many);
        due("the least " + name, x.blur(0, 0, n, 1), least);
        due("the greatest " + name, x.blur(0, 0, n, 2), greatest);
    }

    private static void p26Depths() {
        Check.promise("promise 26, depths");
        for (int d : new int[] {0, 1, 39, 40}) {
            blurs(0, d, 9, 0, 1, d, d);
            blurs(5, d, 9, 20, 1, d, d);
            blurs(0, d, 2, 20, 1, d, d);
        }
        // worn by 1 a year
        blurs(0, 0, 3, 1, 2, 0, 1);
        blurs(0, 0, 3, 20, 21, 0, 20);
        blurs(0, 1, 3, 20, 1, 21, 21);
        blurs(0, 20, 3, 20, 1, 40, 40);
        blurs(0, 21, 3, 20, 0, NONE, NONE);
        blurs(0, 39, 3, 1, 1, 40, 40);
        blurs(0, 40, 3, 1, 0, NONE, NONE);
        // by 3 a year: 39 and 42
        blurs(0, 0, 9, 13, 40, 0, 39);
        blurs(0, 0, 9, 14, 41, 0, 40);
        blurs(0, 0, 9, 20, 41, 0, 40);
        blurs(0, 1, 9, 13, 1, 40, 40);
        blurs(0, 2, 9, 13, 0, NONE, NONE);
        // a loaf by 2 and 4, oak by 1
        blurs(3, 0, 3, 20, 41, 0, 40);
        blurs(3, 0, 9, 1, 5, 0, 4);
        blurs(1, 0, 9, 20, 21, 0, 20);
    }
}
