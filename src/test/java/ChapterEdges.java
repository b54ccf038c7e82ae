import java.math.BigInteger;

/** The boundaries of promises 1 to 7: a new object, chapter, seat, canon, type, clear, read. */
final class ChapterEdges {
    private ChapterEdges() {
    }

    public static void main(String[] args) {
        p01NewObject();
        p01Apart();
        p02Chapter();
        p02WhatStays();
        p03Seat();
        p03Full();
        p04Canon();
        p04Full();
        p05Type();
        p05Full();
        p06Clear();
        p07Numbers();
        p07Counts();
        p07Figures();
        p07Blanks();
        p07Begins();
        p07Prefixes();
        p07Bytes();
        p07Places();
        p07Letters();
        p07Length();
        p07Behind();
        p07Takes();
        p07Fault();
        Check.close("ChapterEdges");
    }

    private static void due(String call, long got, long want) {
        Check.due(call, got, want);
    }

    // ---- promise 1

    private static void p01NewObject() {
        Check.promise("promise 1, a new object");
        for (int i = 0; i <= 10; i++) {
            int what = i;
            Edges.asks("count " + i, Edges::empty, x -> x.count(what), 0);
        }
        Edges.asks("part(0)", Edges::empty, x -> x.part(0), 0);
        Edges.asks("part(1)", Edges::empty, x -> x.part(1), 1);
        BigInteger h = BigInteger.valueOf(1499);
        for (int i = 0; i < 13; i++) {
            h = h.multiply(BigInteger.valueOf(31)).add(i == 12 ? BigInteger.ONE : BigInteger.ZERO);
        }
        Edges.asks("digest()", Edges::empty, x -> x.digest(), h.longValue());
        Edges.asks("quarrels()", Edges::empty, x -> x.quarrels(), 0);
        Edges.asks("first(0, 0)", Edges::empty, x -> x.first(0, 0), SeatScene.NONE);
        Edges.asks("first(3, 1)", Edges::empty, x -> x.first(3, 1), SeatScene.NONE);
        Edges.asks("seating(12, NONE)", Edges::empty, x -> x.seating(12, SeatScene.NONE), 0);
        Edges.asks("years(7, 60)", Edges::empty, x -> x.years(7, 60), 0);
        Edges.asks("clear()", Edges::empty, x -> x.clear(), 0);
        Edges.asks("chapter()", Edges::empty, x -> x.chapter(), 0);
        Edges.asks("read()", Edges::empty, x -> x.read(), -10);
        for (int i = 0; i <= 2; i++) {
            int what = i;
            Edges.asks("forget " + i, Edges::empty, x -> x.forget(what), 0);
        }
        Edges.refused("undo()", Edges::empty, x -> x.undo(), SeatScene.NO, Edges.AS_NO);
        Edges.refused("from(0)", Edges::empty, x -> x.from(0), SeatScene.NO, Edges.AS_NO);
        Edges.refused("from(1)", Edges::empty, x -> x.from(1), SeatScene.NO, Edges.AS_NO);
    }

    private static void p01Apart() {
        Check.promise("promise 1, one object apart from another");
        SeatScene a = Edges.full();
        SeatScene b = new SeatScene();
        a.year(0);
        a.undo();
        for (int i = 0; i <= 10; i++) {
            due("count(" + i + ") of the other", b.count(i), 0);
        }
        due("status(0) of the other", b.status(0), 0);
        due("from(0) of the other", b.from(0), SeatScene.NO);
        due("part(1) of the other", b.part(1), 1);
    }

    // ---- promise 2

    private static void p02Chapter() {
        Check.promise("promise 2, chapter");
        Edges.answers("none", Edges::empty, x -> x.chapter(), 0);
        Edges.answers("seats are not counted", Edges::seatsAlone, x -> x.chapter(), 0);
        Edges.answers("two alone", Edges::canonsAlone, x -> x.chapter(), 2);
        Edges.answers("two of three seats", Edges::roomy, x -> x.chapter(), 2);
        Edges.answers("five", Edges::full, x -> x.chapter(), 5);
        SeatScene x = Edges.full();
        x.chapter();
        Edges.answers("again", () -> x, y -> y.chapter(), 0);
        for (int i = 0; i <= 9; i++) {
            due("count(" + i + ")", x.count(i), 0);
        }
        due("undo()", x.undo(), SeatScene.NO);
        SeatScene fresh = new SeatScene();
        Edges.tell(fresh, Edges.FULL_TEXT);
        fresh.left(0, 0, 0);
        x.left(0, 0, 0);
        due("digest() as at first", x.digest(), fresh.digest());
        for (int i = 0; i < 7; i++) {
            due("seat again", x.seat(0, 0, 0), i);
            due("depth of it", x.of(i, 2), 0);
            due("none sits there", x.of(i, 3), SeatScene.NONE);
        }
        for (int i = 0; i < 5; i++) {
            due("canon again", x.canon(0, 1), i);
            due("he sits on none", x.about(i, 2), SeatScene.NONE);
            for (int t = 0; t < 4; t++) {
                due("he has taken nothing", x.taken(i, t), 0);
            }
        }
        due("depth of all", x.count(4), 0);
        due("taken by all", x.count(5), 0);
    }

    private static void p02WhatStays() {
        Check.promise("promise 2, what stays");
        SeatScene x = Edges.full();
        SeatScene y = Edges.full();
        x.year(0);
        x.sits(0, 1);
        x.seat(0, 0, 0);
        long above = x.part(0);
        long below = x.part(1);
        x.chapter();
        due("status(0)", x.status(0), 1);
        due("status(1)", x.status(1), 1);
        due("status(2)", x.status(2), 1);
        due("part(0)", x.part(0), above);
        due("part(1)", x.part(1), below);
        Check.holds("a fraction other than at first", above != 0 && below != 1);
        due("the text", x.count(10), 150);
        due("from(0)", x.from(0), 1);
        due("image 0", x.digest(), y.digest());
        due("what may be undone in it", x.count(9), 8);
        x.chapter();
        y.from(1);
        due("from(1)", x.from(1), 1);
        due("image 1", x.digest(), y.digest());
        x.chapter();
        due("read()", x.read(), 15);
        y.read();
        due("the text is as it was", x.digest(), y.digest());
    }

    // ---- promise 3

    private static void p03Seat() {
        Check.promise("promise 3, seat");
        Edges.doBounds("kind", (x, v) -> x.seat(v, 1, 1), 0, 3, 5, 3, SeatScene.BAD);
        Edges.doBounds("trait", (x, v) -> x.seat(1, v, 1), 0, 3, 3, 3, SeatScene.BAD);
        Edges.doBounds("depth", (x, v) -> x.seat(1, 1, v), 0, 3, 40, 3, SeatScene.BAD);
        int[][] told = {{0, 0, 0}, {5, 3, 40}, {0, 3, 40}, {5, 0, 0}, {3, 2, 1}, {2, 1, 39}, {4, 2, 20}};
        SeatScene x = new SeatScene();
        int deep = 0;
        for (int i = 0; i < 7; i++) {
            due("seat " + i, x.seat(told[i][0], told[i][1], told[i][2]), i);
            deep += told[i][2];
            due("how many", x.count(0), i + 1);
            due("depth of all", x.count(4), deep);
        }
        for (int i = 0; i < 7; i++) {
            for (int what = 0; what < 3; what++) {
                due("of(" + i + ", " + what + ")", x.of(i, what), told[i][what]);
            }
            due("of(" + i + ", 3)", x.of(i, 3), SeatScene.NONE);
        }
    }

    private static void p03Full() {
        Check.promise("promise 3, an eighth");
        Edges.refused("the least", Edges::full, x -> x.seat(0, 0, 0), SeatScene.FULL, Edges.AS_FULL);
        Edges.refused("the greatest", Edges::full, x -> x.seat(5, 3, 40), SeatScene.FULL, Edges.AS_FULL);
        Edges.bad("BAD kind ahead of FULL", Edges::full, x -> x.seat(6, 0, 0));
        Edges.bad("BAD trait ahead of FULL", Edges::full, x -> x.seat(0, 4, 0));
        Edges.bad("BAD depth ahead of FULL", Edges::full, x -> x.seat(0, 0, 41));
        SeatScene x = Edges.seatsAlone();
        for (int i = 2; i < 7; i++) {
            due("seat", x.seat(0, 0, 0), i);
        }
        due("seven, no canon", x.seat(0, 0, 0), SeatScene.FULL);
        due("once more", x.seat(0, 0, 0), SeatScene.FULL);
        due("counted twice", x.status(2), 2);
        x.chapter();
        due("room again", x.seat(0, 0, 0), 0);
    }

    // ---- promise 4

    private static void p04Canon() {
        Check.promise("promise 4, canon");
        Edges.doBounds("kind", (x, v) -> x.canon(v, 5), 0, 2, 5, 2, SeatScene.BAD);
        Edges.doBounds("weight", (x, v) -> x.canon(1, v), 1, 2, 9, 2, SeatScene.BAD);
        int[][] told = {{0, 1}, {5, 9}, {0, 9}, {5, 1}, {3, 4}};
        SeatScene x = new SeatScene();
        for (int i = 0; i < 5; i++) {
            due("canon " + i, x.canon(told[i][0], told[i][1]), i);
            due("how many", x.count(1), i + 1);
        }
        for (int i = 0; i < 5; i++) {
            due("about(" + i + ", 0)", x.about(i, 0), told[i][0]);
            due("about(" + i + ", 1)", x.about(i, 1), told[i][1]);
            due("about(" + i + ", 2)", x.about(i, 2), SeatScene.NONE);
            due("about(" + i + ", 3)", x.about(i, 3), SeatScene.NONE);
            for (int t = 0; t < 4; t++) {
                due("taken(" + i + ", " + t + ")", x.taken(i, t), 0);
            }
        }
        due("who sit", x.count(3), 0);
    }

    private static void p04Full() {
        Check.promise("promise 4, a sixth");
        Edges.refused("the least", Edges::full, x -> x.canon(0, 1), SeatScene.FULL, Edges.AS_FULL);
        Edges.refused("the greatest", Edges::full, x -> x.canon(5, 9), SeatScene.FULL, Edges.AS_FULL);
        Edges.bad("BAD kind ahead of FULL", Edges::full, x -> x.canon(-1, 1));
        Edges.bad("BAD weight ahead of FULL", Edges::full, x -> x.canon(0, 10));
        SeatScene x = Edges.canonsAlone();
        for (int i = 2; i < 5; i++) {
            due("canon", x.canon(0, 1), i);
        }
        due("five, no seat", x.canon(0, 1), SeatScene.FULL);
        due("five canons, the first seat", x.seat(0, 0, 0), 0);
        x.chapter();
        due("room again", x.canon(0, 1), 0);
    }

    // ---- promise 5

    private static void p05Type() {
        Check.promise("promise 5, type");
        Edges.doBounds("type", (x, v) -> x.type(v), 0, 21, 127, 21, SeatScene.BAD);
        SeatScene x = new SeatScene();
        for (int b = 0; b <= 127; b++) {
            due("type(" + b + ")", x.type(b), b + 1);
            due("count(10)", x.count(10), b + 1);
        }
        x = Edges.roomy();
        SeatScene y = Edges.roomy();
        x.type('x');
        due("what may be undone", x.count(9), 3);
        due("chapter() leaves it", x.chapter(), 2);
        due("count(10)", x.count(10), 21);
        // the byte came behind the others: a fault at its place
        due("read()", x.read(), -10 - 20);
        y.type(32);
        due("read() with a blank behind", y.read(), 2);
    }

    private static void p05Full() {
        Check.promise("promise 5, a 151st");
        SeatScene x = new SeatScene();
        for (int i = 1; i <= 150; i++) {
            due("type " + i, x.type(';'), i);
        }
        due("a 151st", x.type(';'), SeatScene.FULL);
        due("count(10)", x.count(10), 150);
        Edges.refused("the least", Edges::full, y -> y.type(0), SeatScene.FULL, Edges.AS_FULL);
        Edges.refused("the greatest", Edges::full, y -> y.type(127), SeatScene.FULL, Edges.AS_FULL);
        Edges.bad("BAD ahead of FULL: -1", Edges::full, y -> y.type(-1));
        Edges.bad("BAD ahead of FULL: 128", Edges::full, y -> y.type(128));
        x.clear();
        due("room again", x.type('c'), 1);
    }

    // ---- promise 6

    private static void p06Clear() {
        Check.promise("promise 6, clear");
        Edges.asks("none", Edges::empty, x -> x.clear(), 0);
        Edges.answers("twenty", Edges::roomy, x -> x.clear(), 20);
        Edges.answers("150", Edges::full, x -> x.clear(), 150);
        SeatScene one = new SeatScene();
        one.type(0);
        due("one", one.clear(), 1);
        due("again", one.clear(), 0);
        SeatScene x = Edges.full();
        SeatScene y = Edges.full();
        x.clear();
        due("count(10)", x.count(10), 0);
        due("read() of none", x.read(), -10);
        due("all else stays", x.count(9), 8);
        for (int i = 0; i < 8; i++) {
            due("undo()", x.undo(), y.undo());
        }
        // nothing of the old text comes back behind a shorter one
        for (int i = 0; i < 8; i++) {
            x.type("chapter;".charAt(i));
        }
        due("read()", x.read(), 1);
        due("no seats", x.count(0), 0);
    }

    // ---- promise 7

    private static void reads(String text, int items) {
        SeatScene x = Edges.roomy();
        Edges.tell(x, text);
        due("read() of '" + text + "'", x.read(), items);
        due("no refusal", x.status(0) + x.status(1) + x.status(2), 0);
    }

    private static void faults(String text, int place) {
        SeatScene x = Edges.seatsAlone();
        x.canon(0, 9);
        x.sits(0, 1);
        x.year(3);
        Edges.tell(x, text);
        long before = x.digest();
        due("read() of '" + text + "'", x.read(), -10 - place);
        due("all stays", x.digest(), before);
        due("undo()", x.undo(), 0);
        due("undo() of the sitting", x.undo(), 0);
        due("counted as refused", x.status(0) + x.status(1) + x.status(2), 0);
    }

    /** The text with number v where # stands: the least and the greatest are read, what lies beyond is a fault there. */
    private static void number(String text, int least, int greatest) {
        String ahead = text.substring(0, text.indexOf('#'));
        String behind = text.substring(text.indexOf('#') + 1);
        int items = (int) text.chars().filter(c -> c == ';').count();
        for (int v : new int[] {least, greatest}) {
            reads(ahead + v + behind, items);
            if (v < 10) {
                reads(ahead + "0" + v + behind, items);
            }
        }
        if (least > 0) {
            faults(ahead + (least - 1) + behind, ahead.length());
            faults(ahead + "00" + behind, ahead.length());
        }
        faults(ahead + (greatest + 1) + behind, ahead.length());
        faults(ahead + "99" + behind, ahead.length());
        faults(ahead + "00" + greatest + behind, ahead.length());
        faults(ahead + "-1" + behind, ahead.length());
        faults(ahead + ";" + behind, ahead.length());
        faults(ahead + "x" + behind, ahead.length());
        faults(ahead, text.indexOf('#'));
    }

    private static void p07Numbers() {
        Check.promise("promise 7, numbers");
        number("chapter;seat # 0 0;", 0, 5);
        number("chapter;seat 0 # 0;", 0, 3);
        number("chapter;seat 0 0 #;", 0, 40);
        number("chapter;canon # 1;", 0, 5);
        number("chapter;canon 0 #;", 1, 9);
        number("chapter;years #;", 1, 30);
        number("chapter;canon 0 1;seat 0 0 0;sits # 0;", 0, 0);
        number("chapter;canon 0 1;seat 0 0 0;sits 0 #;", 0, 0);
        number("chapter;canon0 1;canon0 1;canon0 1;canon0 1;canon0 1;seat0 0 0;sits # 0;", 0, 4);
        number("chapter;canon0 1;seat0 0 0;seat0 0 0;seat0 0 0;seat0 0 0;seat0 0 0;seat0 0 0;seat0 0 0;sits 0 #;", 0, 6);
    }

    /** Seats and canons: so many and no more; none that is not there yet; none on which another sits. */
    private static void p07Counts() {
        Check.promise("promise 7, how many are there");
        String seven = "chapter;" + "seat0 0 0;".repeat(7);
        reads(seven, 8);
        faults(seven + "seat0 0 0;", 78);
        faults(seven + "seat", 78);
        faults(seven + "seat x", 78);
        faults(seven + "  seat;", 80);
        reads(seven + "canon0 1;", 9);
        String five = "chapter;" + "canon0 1;".repeat(5);
        reads(five, 6);
        faults(five + "canon0 1;", 53);
        faults(five + "canon", 53);
        faults(five + "canon 9 9 9", 53);
        reads(five + "seat0 0 0;", 7);
        faults("chapter;sits 0 0;", 13);
        faults("chapter;seat 0 0 0;sits 0 0;", 24);
        faults("chapter;canon 0 1;sits 0 0;", 25);
        faults("chapter;sits 0 0;canon 0 1;seat 0 0 0;", 13);
        faults("chapter;canon 0 1;sits 0 0;seat 0 0 0;", 25);
        String two = "chapter;seat0 0 0;seat0 0 0;canon0 1;canon0 1;";
        reads(two + "sits0 0;sits1 1;", 7);
        faults(two + "sits0 0;sits1 0;", 60);
        faults(two + "sits1 1;sits0 1;", 60);
        faults(two + "sits1 1;sits0 1", 60);
        reads(two + "sits0 0;sits0 0;", 7);
        reads(two + "sits0 0;sits0 1;sits1 0;", 8);
        faults(two + "sits0 0;sits0 1;sits1 1;", 68);
    }

    private static void p07Figures() {
        Check.promise("promise 7, figures");
        reads("chapter;years 1;", 2);
        reads("chapter;years 01;", 2);
        reads("chapter;years 10;", 2);
        faults("chapter;years 001;", 14);
        faults("chapter;years 100;", 14);
        faults("chapter;years 1000000000001;", 14);
        faults("chapter;years 4294967297;", 14);
        faults("chapter;seat 000 0 0;", 13);
        faults("chapter;seat 0 000 0;", 15);
        faults("chapter;seat 0 0 000;", 17);
        faults("chapter;canon 0 0 0;", 16);
        faults("chapter;canon 000 1;", 14);
        faults("chapter;canon 0 001;", 16);
        // two figures are one number, so a third one is wanted
        faults("chapter;seat 00 0;", 17);
        faults("chapter;canon 05;", 16);
        faults("chapter;0;", 8);
        faults("chapter;000;", 8);
        faults("000", 0);
        faults("chapter 5;", 8);
        faults("chapter 555;", 8);
        faults("chapter;years 5 5;", 16);
        faults("chapter;years 5 555;", 16);
        faults("chapter;years 5 555", 16);
        faults("chapter;years 555", 14);
    }

    private static void p07Blanks() {
        Check.promise("promise 7, blanks");
        reads("chapter;seat0 0 0;canon0 1;sits0 0;years1;", 5);
        reads("   chapter   ;   seat   0   0   0   ;   canon   0   1   ;   sits  0   0   ;  years  1   ;   ", 5);
        reads("chapter ;", 1);
        reads(" chapter;", 1);
        reads("chapter; ", 1);
        faults("chapterseat 0 0 0;", 0);
        faults("chapter;seat 000;", 13);
        faults("chapter;seat 00;", 15);
        faults("chap ter;", 0);
        faults("chapter;se at 0 0 0;", 8);
        faults("chapter;seat 0 0 4 0;", 19);
        for (int b : new int[] {0, 9, 10, 13, 31, 33}) {
            faults("chapter;" + (char) b + "years 1;", 8);
        }
    }

    /** What is wrong ahead of chapter, and chapter itself where it may not stand. */
    private static void p07Begins() {
        Check.promise("promise 7, chapter once and first");
        faults("", 0);
        faults(" ", 1);
        faults(" ".repeat(150), 150);
        faults(";", 0);
        faults(" ;chapter;", 1);
        faults("1chapter;", 0);
        faults("seat 0 0 0;chapter;", 0);
        faults("canon 0 1;", 0);
        faults("sits 0 0;", 0);
        faults("years 1;", 0);
        faults("chapters;", 0);
        faults("chapte;", 0);
        faults("chapter;chapter;", 8);
        faults("chapter chapter;", 8);
        faults("chapter;years 1;chapter;", 16);
        faults("chapter;years chapter;", 14);
        faults("chapter;years 1 chapter;", 16);
        faults("chapter;;", 8);
        faults("chapter;years 1;;", 16);
        faults("chapter", 7);
        faults("chapter ", 8);
        reads("chapter;", 1);
    }

    /** Each beginning of a text: read if it ends an item; a word cut off is none; else it ends too early. */
    private static void p07Prefixes() {
        Check.promise("promise 7, beginnings");
        String text = " chapter ; seat 0 1 2 ;canon 3 4;sits 0 0; years 5;";
        int items = 0;
        boolean ends = false;
        for (int n = 0; n <= text.length(); n++) {
            char last = n == 0 ? ' ' : text.charAt(n - 1);
            char next = n == text.length() ? ' ' : text.charAt(n);
            items += last == ';' ? 1 : 0;
            ends = last == ';' || ends && last == ' ';
            String begun = text.substring(0, n);
            if (ends) {
                reads(begun, items);
            } else if (isLetter(last) && isLetter(next)) {
                faults(begun, wordAt(text, n - 1));
            } else {
                faults(begun, n);
            }
        }
    }

    private static boolean isLetter(char c) {
        return c >= 'a' && c <= 'z';
    }

    private static int wordAt(String text, int place) {
        int from = place;
        while (from > 0 && isLetter(text.charAt(from - 1)) && isLetter(text.charAt(from))) {
            from--;
        }
        return from;
    }

    /** A byte that begins no token, in each place of a text. */
    private static void p07Bytes() {
        Check.promise("promise 7, bytes that begin none");
        String text = "chapter;seat 0 1 2;canon 3 4;sits 0 0;years 5;";
        for (int place = 0; place < text.length(); place++) {
            int fault = isLetter(text.charAt(place)) ? wordAt(text, place) : place;
            for (char b : new char[] {0, 9, 31, 33, '/', ':', '<', '@', 'A', 'S', 'Z', '[', '`', '{', 127}) {
                faults(text.substring(0, place) + b + text.substring(place + 1), fault);
            }
        }
        for (int b = 0; b <= 127; b++) {
            if (b == 32) {
                reads("chapter;" + (char) b, 1);
                reads("chapter" + (char) b + ";", 1);
            } else {
                faults("chapter;" + (char) b, 8);
                faults("chapter" + (char) b + ";", isLetter((char) b) ? 0 : b == ';' ? 8 : 7);
            }
        }
    }

    /** In each place of a text each token that cannot stand there is the fault. */
    private static void p07Places() {
        Check.promise("promise 7, tokens that cannot stand there");
        String[] tokens = {"chapter", ";", "seat", "0", "1", "2", ";", "canon", "3", "4", ";", "sits", "0", "0", ";",
            "years", "5", ";"};
        String[] wrong = {"chapter", "seat", "canon", "sits", "years", "x", ";", "0", "99", "123", "A"};
        for (int i = 0; i < tokens.length; i++) {
            StringBuilder ahead = new StringBuilder();
            StringBuilder behind = new StringBuilder();
            for (int j = 0; j < tokens.length; j++) {
                (j < i ? ahead : behind).append(j == i ? "" : tokens[j] + " ");
            }
            boolean begins = i > 0 && tokens[i - 1].equals(";");
            boolean number = tokens[i].charAt(0) <= '9';
            for (String w : wrong) {
                boolean word = isLetter(w.charAt(0)) && !w.equals("x");
                boolean stands = w.equals(tokens[i]) || begins && word && !w.equals("chapter") || number && w.equals("0");
                if (!stands) {
                    faults(ahead + w + " " + behind, ahead.length());
                }
            }
        }
        // kind 0 for the canon's weight is the one 0 that cannot stand, and that for years
        faults("chapter ; canon 3 0 ;", 18);
        faults("chapter ; years 0 ;", 16);
    }

    /** A word with another letter in one place, with one too few, with one too many. */
    private static void p07Letters() {
        Check.promise("promise 7, words");
        String[] words = {"chapter", "seat", "canon", "sits", "years"};
        String[] items = {";", " 0 0 0;", " 0 1;", " 0 0;", " 1;"};
        for (int w = 0; w < words.length; w++) {
            String word = words[w];
            String ahead = w == 0 ? "" : "chapter;seat 0 0 0;canon 0 1;";
            reads(ahead + word + items[w], w == 0 ? 1 : 4);
            for (int i = 0; i < word.length(); i++) {
                for (String letter : new String[] {"", "x", "a", "z", word.charAt(i) + "e"}) {
                    String wrong = word.substring(0, i) + letter + word.substring(i + 1);
                    if (!wrong.equals(word)) {
                        faults(ahead + wrong + items[w], ahead.length());
                    }
                }
            }
            faults(ahead + "x" + word + items[w], ahead.length());
            faults(ahead + word + "s" + items[w], ahead.length());
            faults(ahead + word + word + items[w], ahead.length());
            faults(ahead + word.toUpperCase() + items[w], ahead.length());
        }
    }

    private static void p07Length() {
        Check.promise("promise 7, the length of a text");
        reads(Edges.FULL_TEXT, 15);
        due("150 bytes", Edges.FULL_TEXT.length(), 150);
        reads("chapter;" + "years1;".repeat(20) + "  ", 21);
        faults("chapter;" + "years1;".repeat(20) + " x", 149);
        faults("chapter;" + "years1;".repeat(20) + " ;", 149);
        faults(" ".repeat(143) + "chapter", 150);
        reads(" ".repeat(142) + "chapter;", 1);
        faults(" ".repeat(149) + "c", 149);
        // 150 bytes that end within an item
        faults(" ".repeat(135) + "chapter;years 5", 150);
        faults(" ".repeat(134) + "chapter;years 30", 150);
        faults(" ".repeat(133) + "chapter;years 305", 147);
        faults(" ".repeat(137) + "chapter;years", 150);
        faults(" ".repeat(138) + "chapter;year", 146);
        faults(" ".repeat(149) + "5", 149);
        faults(" ".repeat(149) + ";", 149);
        faults(" ".repeat(141) + "chapter;A", 149);
    }

    /** Bytes of an older, longer text behind the end of this one are none of it. */
    private static void p07Behind() {
        Check.promise("promise 7, behind the text's end");
        String[] ends = {"chapter;years 5", "chapter;years", "chapter", "chapter;years 1", "chapter;years 5;sit",
            "chapter;", "chapter;y", "chapter;seat 0 0 0;canon 5 ", ""};
        int[] due = {-10 - 15, -10 - 13, -10 - 7, -10 - 15, -10 - 16, 1, -10 - 8, -10 - 27, -10};
        for (int i = 0; i < ends.length; i++) {
            for (String old : new String[] {"5", ";", "s", " ", "99", "A"}) {
                SeatScene x = new SeatScene();
                Edges.tell(x, (ends[i] + old.repeat(150)).substring(0, 150));
                Edges.tell(x, ends[i]);
                due("read() of '" + ends[i] + "' over '" + old + "'", x.read(), due[i]);
            }
        }
        SeatScene x = new SeatScene();
        Edges.tell(x, "chapter;years 5;");
        Edges.tell(x, "chapter;years 05");
        x.type(';');
        due("read() of 05", x.read(), 2);
        due("the year", x.count(2), 5);
    }

    /** What is read takes the place of all but the images, the text, the fraction and STATUS. */
    private static void p07Takes() {
        Check.promise("promise 7, it takes the place of all");
        SeatScene x = Edges.full();
        x.year(0);
        x.sits(0, 1);
        x.seat(0, 0, 0);
        long above = x.part(0);
        long below = x.part(1);
        due("read()", x.read(), 15);
        due("seats", x.count(0), 7);
        due("canons", x.count(1), 5);
        due("the year", x.count(2), 30);
        due("who sit", x.count(3), 16);
        // hands are not worn, and give a bishop who has taken h: 10 and h / 5, at first all, then half
        due("depths", x.count(4), 280);
        for (int i = 6; i <= 9; i++) {
            due("count(" + i + ")", x.count(i), 0);
        }
        due("undo()", x.undo(), SeatScene.NO);
        due("the text", x.count(10), 150);
        due("part(0)", x.part(0), above);
        due("part(1)", x.part(1), below);
        due("status(0)", x.status(0), 1);
        due("status(1)", x.status(1), 2);
        due("status(2)", x.status(2), 1);
        due("taken", x.taken(4, 3), 99);
        due("the first canon has taken nothing", x.taken(0, 0), 0);
        due("read() again", x.read(), 15);
        due("the year again", x.count(2), 30);
        due("image 1", x.from(1), 1);
        due("its year", x.count(2), 6);
        due("image 0", x.from(0), 1);
        due("its year", x.count(2), 10);
        due("its past", x.count(9), 8);
        due("its wishes", x.count(6), 6);
        Edges.tell(x, "chapter;");
        due("the least text", x.read(), 1);
        for (int i = 0; i <= 9; i++) {
            due("count(" + i + ") of nothing", x.count(i), 0);
        }
        readsNumbers();
        readsInOrder();
    }

    /** Each number that is read comes to its place. */
    private static void readsNumbers() {
        SeatScene x = new SeatScene();
        int[][] seats = {{5, 3, 40}, {0, 1, 2}, {3, 2, 17}, {4, 0, 0}, {1, 3, 8}, {2, 2, 39}, {5, 0, 1}};
        int[][] canons = {{5, 1}, {0, 9}, {3, 7}, {4, 2}, {1, 6}};
        StringBuilder text = new StringBuilder("chapter;");
        for (int[] s : seats) {
            text.append("seat").append(s[0]).append(' ').append(s[1]).append(' ').append(s[2]).append(';');
        }
        for (int[] c : canons) {
            text.append("canon").append(c[0]).append(' ').append(c[1]).append(';');
        }
        text.append("sits4 6;");
        Edges.tell(x, text.toString());
        due("read()", x.read(), 14);
        for (int s = 0; s < 7; s++) {
            for (int what = 0; what < 3; what++) {
                due("of(" + s + ", " + what + ")", x.of(s, what), seats[s][what]);
            }
            due("of(" + s + ", 3)", x.of(s, 3), s == 6 ? 4 : SeatScene.NONE);
        }
        int[] heavy = {2, 9, 14, 1, 6};
        for (int c = 0; c < 5; c++) {
            due("about(" + c + ", 0)", x.about(c, 0), canons[c][0]);
            due("about(" + c + ", 1)", x.about(c, 1), canons[c][1]);
            due("about(" + c + ", 2)", x.about(c, 2), c == 4 ? 6 : SeatScene.NONE);
            due("about(" + c + ", 4)", x.about(c, 4), heavy[c]);
        }
    }

    /** Items do what the calls of their names do, one behind the other. */
    private static void readsInOrder() {
        SeatScene x = new SeatScene();
        Edges.tell(x, "chapter;years 3;canon 0 9;seat 0 1 10;sits 0 0;years 2;seat 3 2 5;sits 0 1;years 1;");
        due("read()", x.read(), 9);
        due("the year", x.count(2), 6);
        due("worn twice by 3", x.of(0, 2), 4);
        due("worn once by 4", x.of(1, 2), 1);
        // 10 gives 2, 7 gives 1
        due("taken of 1", x.taken(0, 1), 3);
        due("taken of 2", x.taken(0, 2), 0);
        due("he sits on the later one", x.about(0, 2), 1);
        Edges.tell(x, "chapter;canon 0 9;seat 2 0 40;sits 0 0;years 30;");
        due("read()", x.read(), 5);
        due("depth 0 at least", x.of(0, 2), 0);
        due("99 at most", x.taken(0, 0), 99);
        Edges.tell(x, "chapter;" + "years30;".repeat(17));
        due("read()", x.read(), 18);
        due("510 years", x.count(2), 510);
    }

    private static void p07Fault() {
        Check.promise("promise 7, a fault changes nothing");
        String[] texts = {"", " ", "chapter", "chapter;seat 0 0 41;", "x", "chapter;chapter;", "chapter;years 30;years 31;",
            "chapter;seat 1 1 1;canon 1 1;sits 0 0;years 9;sits 0 1;"};
        for (String text : texts) {
            Edges.leavesAll("a fault of '" + text + "'", () -> told(text), x -> x.read());
        }
    }

    private static SeatScene told(String text) {
        SeatScene x = Edges.full();
        x.from(1);
        Edges.tell(x, text);
        return x;
    }
}
