/** The boundaries of promises 8 to 14: sits, swap, year, undo, of, about, taken. */
final class YearEdges {
    private static final int OTHER = -10;

    private YearEdges() {
    }

    public static void main(String[] args) {
        p08Sits();
        p08None();
        p08Held();
        p09Swap();
        p09Alike();
        p10Year();
        p10Together();
        p10Last();
        p10At999();
        p11Undo();
        p11Eight();
        p11Shifted();
        p11Behind();
        p11What();
        p12Of();
        p13About();
        p14Taken();
        Check.close("YearEdges");
    }

    private static void due(String call, long got, long want) {
        Check.due(call, got, want);
    }

    // ---- promise 8

    private static void p08Sits() {
        Check.promise("promise 8, sits");
        Edges.doBounds("canon", (x, v) -> x.sits(v, 2), 0, 0, 1, 1, OTHER);
        Edges.doBounds("seat", (x, v) -> x.sits(1, v == 0 ? 2 : v), -1, 1, 2, 1, OTHER);
        Edges.canonBounds("canon", (x, v) -> x.sits(v, 6), OTHER);
        Edges.canonBounds("canon, on none", (x, v) -> x.sits(v, SeatScene.NONE), OTHER);
        Edges.seatBounds("seat", (x, v) -> x.sits(0, v), OTHER);
        Edges.refused("no seat, none told", Edges::empty, x -> x.sits(0, SeatScene.NONE), OTHER, Edges.AS_BAD);
        Edges.refused("both wrong", Edges::full, x -> x.sits(5, 7), OTHER, Edges.AS_BAD);
        SeatScene x = Edges.full();
        due("from the fifth seat to the seventh", x.sits(4, 6), 4);
        due("from the seventh to the first but held", x.sits(4, 0), SeatScene.NO);
        due("to the fifth", x.sits(4, 4), 6);
        due("who sits there", x.of(4, 3), 4);
        due("none on the seventh", x.of(6, 3), SeatScene.NONE);
    }

    private static void p08None() {
        Check.promise("promise 8, on none");
        Edges.answers("from seat 0", Edges::roomy, x -> x.sits(0, SeatScene.NONE), 0);
        Edges.answers("from none", Edges::canonsAlone, x -> x.sits(0, SeatScene.NONE), SeatScene.NONE);
        SeatScene x = Edges.full();
        for (int c = 0; c < 5; c++) {
            due("to none", x.sits(c, SeatScene.NONE), c);
            due("who sit", x.count(3), 31 & -2 << c);
        }
        for (int c = 0; c < 5; c++) {
            due("all on none, no NO", x.sits(c, SeatScene.NONE), SeatScene.NONE);
        }
        due("the fifth on the first seat", x.sits(4, 0), SeatScene.NONE);
        due("status(1)", x.status(1), 0);
        x = Edges.roomy();
        x.sits(0, SeatScene.NONE);
        x.year(1);
        due("on none one takes nothing", x.taken(0, 0), 10);
        due("and wears nothing", x.of(0, 2), 37);
    }

    private static void p08Held() {
        Check.promise("promise 8, another one sits there");
        Edges.refused("the second on the first's", Edges::roomy, x -> x.sits(1, 0), SeatScene.NO, Edges.AS_NO);
        Edges.refused("the first on the second's", Edges::roomy, x -> x.sits(0, 1), SeatScene.NO, Edges.AS_NO);
        for (int c = 0; c < 5; c++) {
            int who = c;
            for (int s = 0; s < 5; s++) {
                int on = s;
                if (s == c) {
                    Edges.answers(c + " on his own", Edges::full, x -> x.sits(who, on), s);
                } else {
                    Edges.refused(c + " on " + s, Edges::full, x -> x.sits(who, on), SeatScene.NO, Edges.AS_NO);
                }
            }
        }
        Edges.refused("BAD canon ahead of NO", Edges::roomy, x -> x.sits(2, 0), OTHER, Edges.AS_BAD);
        Edges.refused("BAD canon ahead of NO, -1", Edges::roomy, x -> x.sits(-1, 1), OTHER, Edges.AS_BAD);
        SeatScene x = Edges.roomy();
        x.sits(0, 2);
        due("a seat that is free again", x.sits(1, 0), 1);
        x = Edges.canonsAlone();
        x.seat(0, 0, 4);
        x.sits(1, 0);
        due("one on none, on the other's", x.sits(0, 0), SeatScene.NO);
        due("he stays on none", x.about(0, 2), SeatScene.NONE);
    }

    // ---- promise 9

    private static void p09Swap() {
        Check.promise("promise 9, swap");
        Edges.doBounds("first", (x, v) -> x.swap(v, v == 0 ? 1 : 0), 0, 1, 1, 1, SeatScene.BAD);
        Edges.doBounds("second", (x, v) -> x.swap(v == 0 ? 1 : 0, v), 0, 1, 1, 1, SeatScene.BAD);
        Edges.canonBounds("first", (x, v) -> x.swap(v, 0), SeatScene.BAD);
        Edges.canonBounds("second", (x, v) -> x.swap(0, v), SeatScene.BAD);
        SeatScene x = Edges.full();
        due("the first and the last", x.swap(0, 4), 1);
        due("the first sits", x.about(0, 2), 4);
        due("the last sits", x.about(4, 2), 0);
        due("the second stays", x.about(1, 2), 1);
        x.sits(2, SeatScene.NONE);
        due("one on none", x.swap(2, 3), 1);
        due("he who was on none", x.about(2, 2), 3);
        due("on none now", x.about(3, 2), SeatScene.NONE);
        due("none on seat 2", x.of(2, 3), SeatScene.NONE);
        due("the other way", x.swap(2, 3), 1);
        due("back", x.about(3, 2), 3);
        x = Edges.canonsAlone();
        due("both on none", x.swap(0, 1), 1);
        due("on none", x.about(0, 2), SeatScene.NONE);
        due("one that may be undone", x.count(9), 1);
        due("what is taken stays with him", takenBehindSwap(), 10);
    }

    private static long takenBehindSwap() {
        SeatScene x = Edges.roomy();
        x.swap(0, 1);
        return x.taken(0, 0);
    }

    private static void p09Alike() {
        Check.promise("promise 9, alike");
        Edges.bad("two lone canons, alike", Edges::canonsAlone, x -> x.swap(1, 1));
        for (int c = 0; c < 5; c++) {
            int who = c;
            Edges.bad("alike " + c, Edges::full, x -> x.swap(who, who));
        }
        Edges.bad("alike, none there", Edges::empty, x -> x.swap(0, 0));
        Edges.bad("alike, not there", Edges::roomy, x -> x.swap(2, 2));
        Edges.bad("NONE, NONE", Edges::roomy, x -> x.swap(-1, -1));
    }

    // ---- promise 10

    private static void p10Year() {
        Check.promise("promise 10, year");
        Edges.doBounds("year", (x, v) -> x.year(v), 1, 2, 30, 2, SeatScene.BAD);
        Edges.bad("none in the empty chapter", Edges::empty, x -> x.year(0));
        Edges.bad("31 in the empty chapter", Edges::empty, x -> x.year(31));
        for (int n : new int[] {1, 2, 29, 30}) {
            SeatScene x = new SeatScene();
            due("nobody does anything", x.year(n), 0);
            due("the year", x.count(2), n);
            due("one that may be undone", x.count(9), 1);
            due("undo()", x.undo(), 0);
        }
        SeatScene x = new SeatScene();
        for (int i = 0; i < 5; i++) {
            x.seat(0, 0, 4 * i + 4);
            x.canon(0, 1);
            x.sits(i, i);
        }
        // behind n years they have taken n, 2 n, .. 5 n
        int[] doers = {0, 1, 2, 3, 4, 4, 4, 4, 4, 5};
        for (int n = 1; n <= 10; n++) {
            due("who do in year " + n, x.year(1), doers[n - 1]);
        }
    }

    private static void p10Together() {
        Check.promise("promise 10, n years are as one and one");
        SeatScene one = Edges.full();
        SeatScene all = Edges.full();
        for (int i = 0; i < 30; i++) {
            one.year(1);
        }
        int does = all.year(30);
        for (int s = 0; s < 7; s++) {
            due("depth of " + s, all.of(s, 2), one.of(s, 2));
        }
        for (int c = 0; c < 5; c++) {
            for (int t = 0; t < 4; t++) {
                due("taken(" + c + ", " + t + ")", all.taken(c, t), one.taken(c, t));
            }
        }
        due("the year", all.count(2), 40);
        due("the other year", one.count(2), 40);
        due("who do", does, one.years(0, 0));
        due("together one", all.undo(), 10);
        due("each one", one.undo(), 39);
    }

    /** So many years have gone by; nobody has sat. */
    private static SeatScene inYear(int y) {
        SeatScene x = new SeatScene();
        x.seat(0, 1, 40);
        x.seat(4, 2, 40);
        x.canon(0, 9);
        for (int i = 0; i < y / 30; i++) {
            x.year(30);
        }
        if (y % 30 > 0) {
            x.year(y % 30);
        }
        return x;
    }

    private static void p10Last() {
        Check.promise("promise 10, up to 999");
        int[][] fromAndMore = {{968, 30, 998}, {969, 30, 999}, {970, 30, 999}, {998, 1, 999}, {998, 2, 999},
            {998, 30, 999}, {997, 1, 998}, {999, 1, 999}};
        for (int[] row : fromAndMore) {
            SeatScene x = inYear(row[0]);
            due("in year", x.count(2), row[0]);
            x.sits(0, 0);
            x.year(row[1]);
            due(row[1] + " years on", x.count(2), row[2]);
            due("so often worn", x.of(0, 2), Math.max(40 - 3 * (row[2] - row[0]), 0));
        }
        // in year 998 a gilt seat gives 20, in year 999 half
        SeatScene x = inYear(998);
        due("in 998", x.takes(0, 1), 20);
        x.sits(0, 1);
        due("one does", x.year(30), 1);
        due("once", x.taken(0, 2), 20);
        due("in 999: 36 left, half of 18", x.takes(0, 1), 9);
    }

    private static void p10At999() {
        Check.promise("promise 10, at 999");
        for (int n : new int[] {1, 30}) {
            SeatScene x = inYear(999);
            x.sits(0, 0);
            SeatScene y = inYear(999);
            y.sits(0, 0);
            due("nobody does", x.year(n), 0);
            due("999 stays", x.count(2), 999);
            due("nothing taken", x.taken(0, 1), 0);
            due("nothing worn", x.of(0, 2), 40);
            due("digest()", x.digest(), y.digest());
            due("no refusal", x.status(0) + x.status(1) + x.status(2), 0);
            due("the call may be undone", x.undo(), 999);
            due("he sits yet", x.about(0, 2), 0);
            due("then the sitting", x.undo(), 999);
            due("he sits on none", x.about(0, 2), SeatScene.NONE);
            due("then the last nine", x.undo(), 990);
        }
        SeatScene x = inYear(999);
        due("0 at 999", x.year(0), SeatScene.BAD);
        due("31 at 999", x.year(31), SeatScene.BAD);
        x.sits(0, 1);
        due("behind 0 years", x.then(0, 2, 0), 0);
        due("year 999 goes by ahead", x.then(0, 2, 1), 10);
        due("year 1000: 36 left, 18", x.then(0, 2, 2), 28);
        due("60 years beyond", x.depth(1, 60), 0);
        due("when", x.when(0, 2, 28), 2);
        due("place", x.place(0, 2, 28, 1), 2);
        x.wish(0, 2, 28);
        due("seating", x.seating(2, SeatScene.NONE), 1);
        due("first", x.first(2, 1), 1);
        // 4 a year: below 4 behind ten
        due("blank", x.blank(1), 10);
        due("years by a seed", x.years(1, 1), 1);
        due("999 stays", x.count(2), 999);
    }

    // ---- promise 11

    private static void p11Undo() {
        Check.promise("promise 11, undo");
        Edges.refused("none in the empty chapter", Edges::empty, x -> x.undo(), SeatScene.NO, Edges.AS_NO);
        Edges.refused("none behind seats", Edges::seatsAlone, x -> x.undo(), SeatScene.NO, Edges.AS_NO);
        Edges.refused("none behind canons", Edges::canonsAlone, x -> x.undo(), SeatScene.NO, Edges.AS_NO);
        Edges.answers("one", Edges::roomy, x -> x.undo(), 0);
        Edges.answers("one of eight", Edges::full, x -> x.undo(), 6);
        SeatScene x = Edges.roomy();
        long[] ahead = {x.digest(), 0, 0, 0};
        for (int i = 1; i <= 3; i++) {
            x.undo();
            due("count(9)", x.count(9), 3 - i);
            ahead[i] = x.digest();
        }
        Edges.refused("a fourth", () -> undone(3), y -> y.undo(), SeatScene.NO, Edges.AS_NO);
        due("nothing taken", x.count(5), 0);
        due("nobody sits", x.count(3), 0);
        due("depth as at first", x.count(4), 68);
        x.sits(0, 0);
        due("the first again", x.digest(), ahead[2]);
        x.sits(1, 1);
        due("the second again", x.digest(), ahead[1]);
        x.year(1);
        due("the third again", x.digest(), ahead[0]);
    }

    private static SeatScene undone(int n) {
        SeatScene x = Edges.roomy();
        for (int i = 0; i < n; i++) {
            x.undo();
        }
        return x;
    }

    private static void p11Eight() {
        Check.promise("promise 11, eight at most");
        for (int made = 1; made <= 20; made++) {
            SeatScene x = Edges.canonsAlone();
            for (int i = 1; i <= made; i++) {
                x.year(i);
                due("count(9)", x.count(9), Math.min(i, 8));
            }
            int year = made * (made + 1) / 2;
            for (int i = made; i > Math.max(made - 8, 0); i--) {
                year -= i;
                due("undo() of " + i, x.undo(), year);
                due("the year", x.count(2), year);
            }
            due("one more than may be", x.undo(), SeatScene.NO);
            due("counted", x.status(1), 1);
            due("the year stays", x.count(2), year);
        }
        for (int sort = 0; sort < 3; sort++) {
            SeatScene x = Edges.roomy();
            for (int i = 4; i <= 10; i++) {
                int done = sort == 0 ? x.sits(0, i % 2 == 0 ? 2 : 0) : sort == 1 ? x.swap(0, 1) : x.year(30);
                Check.holds("done", done >= 0);
                due("each is one", x.count(9), Math.min(i, 8));
            }
        }
    }

    /** Undone and done again, over the eighth and on: the last eight come back, the latest first. */
    private static void p11Shifted() {
        Check.promise("promise 11, undone and done again");
        SeatScene x = Edges.canonsAlone();
        for (int i = 0; i < 11; i++) {
            x.year(1);
        }
        due("undo()", x.undo(), 10);
        due("undo()", x.undo(), 9);
        due("undo()", x.undo(), 8);
        due("five are left", x.count(9), 5);
        for (int i = 0; i < 5; i++) {
            x.year(10);
        }
        due("eight", x.count(9), 8);
        int[] then = {48, 38, 28, 18, 8, 7, 6, 5};
        for (int y : then) {
            due("undo()", x.undo(), y);
        }
        due("no more", x.undo(), SeatScene.NO);
        x.year(2);
        due("one again", x.undo(), 5);
        due("no more", x.undo(), SeatScene.NO);
    }

    /** Behind what nothing may be undone, and behind what it may yet. */
    private static void p11Behind() {
        Check.promise("promise 11, behind a seat, a canon that comes");
        Edges.refused("a seat", () -> behind(x -> x.seat(0, 0, 0)), x -> x.undo(), SeatScene.NO, Edges.AS_NO);
        Edges.refused("a canon", () -> behind(x -> x.canon(0, 1)), x -> x.undo(), SeatScene.NO, Edges.AS_NO);
        Edges.refused("chapter", () -> behind(x -> x.chapter()), x -> x.undo(), SeatScene.NO, Edges.AS_NO);
        Edges.refused("read", () -> behind(x -> x.read()), x -> x.undo(), SeatScene.NO, Edges.AS_NO);
        Edges.Call[] others = {x -> x.wish(0, 0, 1), x -> x.note(0, 0, 0, 0, 0), x -> x.mark(0, 0, 0, 0),
            x -> x.forget(0), x -> x.type(0), x -> x.clear(), x -> x.left(0, 1, 1), x -> x.image(1),
            x -> x.seating(12, 0), x -> x.years(3, 60), x -> x.place(0, 0, 99, 0), x -> x.blur(0, 0, 3, 0),
            x -> x.first(3, 0), x -> x.then(0, 0, 60)};
        for (Edges.Call other : others) {
            SeatScene x = behind(other);
            due("three are left", x.count(9), 3);
            due("undo()", x.undo(), 0);
        }
        Edges.Call[] wrong = {x -> x.seat(6, 0, 0), x -> x.canon(0, 0), x -> x.sits(0, 1), x -> x.sits(0, 3),
            x -> x.swap(0, 0), x -> x.year(31), x -> x.from(1), x -> x.from(2)};
        for (Edges.Call w : wrong) {
            due("three are left behind a refused one", behind(w).count(9), 3);
        }
        SeatScene x = Edges.full();
        x.seat(0, 0, 0);
        x.canon(0, 1);
        due("an eighth seat, a sixth canon did not come", x.count(9), 8);
        due("undo()", x.undo(), 6);
        x.from(0);
        due("those of the image", x.count(9), 8);
        due("undo()", x.undo(), 6);
        x.from(1);
        due("those of the other image", x.undo(), 3);
    }

    private static SeatScene behind(Edges.Call call) {
        SeatScene x = Edges.roomy();
        call.on(x);
        return x;
    }

    /** Where all sit, what is taken, depths and the year come back; the rest stays. */
    private static void p11What() {
        Check.promise("promise 11, what comes back and what stays");
        SeatScene x = Edges.roomy();
        x.sits(0, 2);
        x.year(2);
        x.swap(0, 1);
        x.wish(1, 1, 1);
        x.forget(1);
        x.mark(0, 1, 1, 1);
        x.type(32);
        x.left(0, 0, 0);
        x.image(1);
        x.year(0);
        due("ahead of the change", x.undo(), 3);
        due("seat of the first", x.about(0, 2), 2);
        due("seat of the second", x.about(1, 2), 1);
        // hands of 8: 2 and a fifth of 10, then of 14
        due("taken", x.taken(0, 0), 18);
        due("taken", x.taken(1, 2), 33);
        due("ahead of the years", x.undo(), 1);
        due("taken", x.taken(0, 0), 10);
        due("taken", x.taken(1, 2), 11);
        due("ahead of the sitting", x.undo(), 1);
        due("seat of the first", x.about(0, 2), 0);
        due("wishes stay", x.count(6), 2);
        due("notes stay", x.count(7), 0);
        due("marks stay", x.count(8), 2);
        due("the text stays", x.count(10), 21);
        due("the fraction stays", x.part(0), 1);
        due("STATUS stays", x.status(0), 1);
        due("the image stays", x.from(1), 1);
        due("as it was kept", x.about(0, 2), 1);
        due("depth comes back", depthUndone(), 37);
    }

    private static long depthUndone() {
        SeatScene x = Edges.roomy();
        x.year(9);
        x.undo();
        return x.of(0, 2);
    }

    // ---- promise 12

    private static void p12Of() {
        Check.promise("promise 12, of");
        Edges.askBounds("seat", (x, v) -> x.of(v, 1), 0, 0, 2, 0, OTHER);
        Edges.askBounds("what", (x, v) -> x.of(1, v), 0, 2, 3, 1, OTHER);
        Edges.seatBounds("seat", (x, v) -> x.of(v, 0), OTHER);
        Edges.refused("both wrong", Edges::full, x -> x.of(7, 4), OTHER, Edges.AS_BAD);
        int[][] want = {{0, 0, 37, 0}, {2, 2, 20, 1}, {5, 0, 8, -1}};
        for (int s = 0; s < 3; s++) {
            for (int what = 0; what < 4; what++) {
                int on = s;
                int of = what;
                Edges.asks("of(" + s + ", " + what + ")", Edges::roomy, x -> x.of(on, of), want[s][what]);
            }
        }
        SeatScene x = Edges.full();
        for (int s = 0; s < 7; s++) {
            due("kind of " + s, x.of(s, 0), s % 6);
            due("trait of " + s, x.of(s, 1), s % 4);
            due("who sits on " + s, x.of(s, 3), s < 5 ? s : SeatScene.NONE);
        }
        due("depth of the last", x.of(6, 2), 34);
    }

    // ---- promise 13

    private static void p13About() {
        Check.promise("promise 13, about");
        Edges.askBounds("canon", (x, v) -> x.about(v, 1), 0, 9, 1, 3, OTHER);
        Edges.askBounds("what", (x, v) -> x.about(1, v), 0, 2, 4, 2, OTHER);
        Edges.canonBounds("canon", (x, v) -> x.about(v, 1), OTHER);
        Edges.refused("both wrong", Edges::full, x -> x.about(5, 5), OTHER, Edges.AS_BAD);
        int[][] want = {{0, 9, 0, 0, 9}, {2, 3, 1, 2, 2}};
        for (int c = 0; c < 2; c++) {
            for (int what = 0; what < 5; what++) {
                int who = c;
                int of = what;
                Edges.asks("about(" + c + ", " + what + ")", Edges::roomy, x -> x.about(who, of), want[c][what]);
            }
        }
        Edges.asks("one on none", Edges::canonsAlone, x -> x.about(1, 2), SeatScene.NONE);
        Edges.asks("one who does nothing", Edges::canonsAlone, x -> x.about(1, 3), SeatScene.NONE);
        Edges.asks("a bishop of 4", Edges::canonsAlone, x -> x.about(1, 4), 5);
        SeatScene x = Edges.full();
        int[] heavy = {5, 6, 4, 16, 5};
        for (int c = 0; c < 5; c++) {
            due("kind of " + c, x.about(c, 0), c);
            due("weight of " + c, x.about(c, 1), 5 + c);
            due("seat of " + c, x.about(c, 2), c);
            due("how heavy " + c + " is", x.about(c, 4), heavy[c]);
        }
    }

    // ---- promise 14

    private static void p14Taken() {
        Check.promise("promise 14, taken");
        Edges.askBounds("canon", (x, v) -> x.taken(v, 2), 0, 0, 1, 11, SeatScene.BAD);
        Edges.askBounds("trait", (x, v) -> x.taken(0, v), 0, 10, 3, 0, SeatScene.BAD);
        Edges.canonBounds("canon", (x, v) -> x.taken(v, 0), SeatScene.BAD);
        int[][] want = {{10, 0, 0, 0}, {0, 0, 11, 0}};
        for (int c = 0; c < 2; c++) {
            for (int t = 0; t < 4; t++) {
                int who = c;
                int of = t;
                Edges.asks("taken(" + c + ", " + t + ")", Edges::roomy, x -> x.taken(who, of), want[c][t]);
            }
        }
        SeatScene x = Edges.roomy();
        x.year(30);
        due("99 at most", x.taken(1, 2), 99);
    }
}
