/** One method a promise: ordinary inputs and the edges that the document names, worked out by hand. */
final class PromiseTests {
    private PromiseTests() {
    }

    public static void main(String[] args) {
        newObject();
        chapter();
        seat();
        canon();
        seatKinds();
        canonKinds();
        type();
        clear();
        read();
        faults();
        sits();
        swap();
        year();
        lastYear();
        undo();
        of();
        about();
        taken();
        takes();
        then();
        depth();
        when();
        first();
        blank();
        place();
        wish();
        seating();
        quarrels();
        row();
        blur();
        where();
        note();
        mark();
        forget();
        is();
        look();
        what();
        tries();
        two();
        left();
        years();
        part();
        image();
        from();
        status();
        count();
        digest();
        Check.close("PromiseTests");
    }

    private static void due(String call, long got, long want) {
        Check.due(call, got, want);
    }

    /** Two canons on the first two of three seats. */
    private static SeatScene pair() {
        SeatScene x = new SeatScene();
        x.seat(0, 1, 40);
        x.seat(2, 2, 20);
        x.seat(0, 3, 8);
        x.canon(0, 9);
        x.canon(0, 3);
        x.sits(0, 0);
        x.sits(1, 1);
        return x;
    }

    static void tell(SeatScene x, String text) {
        x.clear();
        for (int i = 0; i < text.length(); i++) {
            x.type(text.charAt(i));
        }
    }

    private static void newObject() {
        Check.promise("promise 1, a new object");
        SeatScene x = new SeatScene();
        for (int i = 0; i <= 10; i++) {
            due("count(" + i + ")", x.count(i), 0);
        }
        for (int i = 0; i <= 2; i++) {
            due("status(" + i + ")", x.status(i), 0);
        }
        due("part(0)", x.part(0), 0);
        due("part(1)", x.part(1), 1);
        due("from(0)", x.from(0), SeatScene.NO);
        due("from(1)", x.from(1), SeatScene.NO);
        due("undo()", x.undo(), SeatScene.NO);
        due("NONE", SeatScene.NONE, -1);
        due("BAD", SeatScene.BAD, -2);
        due("NO", SeatScene.NO, -3);
        due("FULL", SeatScene.FULL, -4);
    }

    private static void chapter() {
        Check.promise("promise 2, chapter");
        SeatScene x = pair();
        x.wish(0, 0, 1);
        x.note(0, 1, 1, 1, 1);
        x.mark(0, 1, 1, 1);
        x.year(3);
        x.image(1);
        x.left(1, 1, 5);
        x.year(0);
        tell(x, "ab");
        due("chapter()", x.chapter(), 2);
        for (int i = 0; i <= 9; i++) {
            due("count(" + i + ")", x.count(i), 0);
        }
        due("count(10)", x.count(10), 2);
        due("part(0)", x.part(0), 3);
        due("status(0)", x.status(0), 1);
        due("chapter()", x.chapter(), 0);
        due("seat(0, 0, 0)", x.seat(0, 0, 0), 0);
        due("canon(0, 1)", x.canon(0, 1), 0);
        due("about(0, 2)", x.about(0, 2), SeatScene.NONE);
        due("taken(0, 1)", x.taken(0, 1), 0);
        due("from(1)", x.from(1), 1);
        due("count(2)", x.count(2), 3);
    }

    private static void seat() {
        Check.promise("promise 3, seat");
        SeatScene x = new SeatScene();
        for (int i = 0; i < 7; i++) {
            due("seat " + i, x.seat(i % 6, i % 4, i == 6 ? 40 : i), i);
        }
        due("an eighth", x.seat(0, 0, 0), SeatScene.FULL);
        due("a bad eighth", x.seat(6, 0, 0), SeatScene.BAD);
        due("of(5, 0)", x.of(5, 0), 5);
        due("of(3, 1)", x.of(3, 1), 3);
        due("of(6, 2)", x.of(6, 2), 40);
        due("of(6, 3)", x.of(6, 3), SeatScene.NONE);
    }

    private static void canon() {
        Check.promise("promise 4, canon");
        SeatScene x = new SeatScene();
        for (int i = 0; i < 5; i++) {
            due("canon " + i, x.canon(i + 1, i == 4 ? 9 : i + 1), i);
        }
        due("a sixth", x.canon(0, 1), SeatScene.FULL);
        due("a bad sixth", x.canon(0, 0), SeatScene.BAD);
        due("about(4, 0)", x.about(4, 0), 5);
        due("about(4, 1)", x.about(4, 1), 9);
        due("about(4, 2)", x.about(4, 2), SeatScene.NONE);
        due("about(4, 3)", x.about(4, 3), SeatScene.NONE);
    }

    private static void seatKinds() {
        Check.promise("terms, kinds of seats");
        // depth 39: plain 9; a plain canon (weight 7: wear 2) who has taken nothing
        int[] even = {9, 9, 18, 7, 18, 9};
        int[] odd = {9, 9, 18, 7, 9, 9};
        int[] wear = {2, 1, 2, 3, 3, 0};
        for (int kind = 0; kind <= 5; kind++) {
            SeatScene x = new SeatScene();
            x.seat(kind, 0, 39);
            x.canon(0, 7);
            due("takes of kind " + kind + " in year 0", x.takes(0, 0), even[kind]);
            x.year(1);
            due("takes of kind " + kind + " in year 1", x.takes(0, 0), odd[kind]);
            x.year(1);
            due("takes of kind " + kind + " in year 2", x.takes(0, 0), even[kind]);
            x.year(1);
            due("takes of kind " + kind + " in year 3", x.takes(0, 0), odd[kind]);
            x.sits(0, 0);
            x.year(1);
            due("depth of kind " + kind, x.of(0, 2), 39 - wear[kind]);
        }
        SeatScene x = new SeatScene();
        x.seat(3, 0, 11);
        x.seat(3, 0, 12);
        x.seat(0, 0, 3);
        x.seat(5, 0, 20);
        x.canon(0, 1);
        due("a loaf of 11", x.takes(0, 0), 0);
        due("a loaf of 12", x.takes(0, 1), 1);
        due("plain of 3", x.takes(0, 2), 0);
        x.sits(0, 3);
        x.year(2);
        // 5, then 5 + 5 / 5 = 6
        due("hands twice", x.taken(0, 0), 11);
        due("hands, 11 taken", x.takes(0, 3), 7);
    }

    private static void canonKinds() {
        Check.promise("terms, kinds of canons");
        // given 9, then behind that
        int[] fresh = {9, 4, 10, 0, 10, 9};
        int[] later = {9, 4, 10, 0, 10, 4};
        int[] heavy = {7, 7, 4, 14, 4, 8};
        for (int kind = 0; kind <= 5; kind++) {
            SeatScene x = new SeatScene();
            x.seat(5, 0, 36);
            x.seat(0, 1, 36);
            x.seat(0, 0, 0);
            x.seat(0, 0, 37);
            x.canon(kind, 7);
            due("kind " + kind + " fresh", x.takes(0, 0), fresh[kind]);
            due("kind " + kind + " of nothing", x.takes(0, 2), 0);
            due("kind " + kind + " heavy", x.about(0, 4), heavy[kind]);
            x.sits(0, 3);
            x.year(1);
            due("kind " + kind + " one year on", x.takes(0, 3), kind == 3 ? 0 : later(later[kind], kind, heavy[kind]));
            due("kind " + kind + " of another trait", x.takes(0, 1), fresh[kind]);
        }
        SeatScene x = new SeatScene();
        x.seat(0, 0, 36);
        x.canon(4, 1);
        x.sits(0, 0);
        x.year(1);
        due("a prebend's first", x.taken(0, 0), 10);
        x.year(1);
        due("a prebend's second", x.taken(0, 0), 20);
        due("a prebend of 20", x.takes(0, 0), 0);
        x.year(5);
        due("a prebend at last", x.taken(0, 0), 20);
        x.canon(5, 1);
        due("an even young weight", weightOf(2, 8), 4);
        due("an odd prebend weight", weightOf(4, 1), 1);
        due("a bishop", x.about(1, 4), 2);
    }

    /** What is taken of depth 37 worn once by one so heavy, for the kinds whose g goes down with it. */
    private static int later(int ofNine, int kind, int heavy) {
        int g = (37 - heavy / 3) / 4;
        return kind == 0 ? g : kind == 1 || kind == 5 ? g / 2 : kind == 2 || kind == 4 ? g + 1 : ofNine;
    }

    private static int weightOf(int kind, int weight) {
        SeatScene x = new SeatScene();
        x.canon(kind, weight);
        return x.about(0, 4);
    }

    private static void type() {
        Check.promise("promise 5, type");
        SeatScene x = new SeatScene();
        due("type(0)", x.type(0), 1);
        due("type(127)", x.type(127), 2);
        for (int i = 3; i <= 150; i++) {
            due("type " + i, x.type(32), i);
        }
        due("a 151st", x.type(32), SeatScene.FULL);
        due("a bad 151st", x.type(128), SeatScene.BAD);
        due("count(10)", x.count(10), 150);
        due("read()", x.read(), -10);
    }

    private static void clear() {
        Check.promise("promise 6, clear");
        SeatScene x = new SeatScene();
        due("clear()", x.clear(), 0);
        tell(x, "chapter;");
        due("clear()", x.clear(), 8);
        due("count(10)", x.count(10), 0);
        due("read()", x.read(), -10);
    }

    private static void read() {
        Check.promise("promise 7, read");
        SeatScene x = pair();
        x.wish(0, 0, 1);
        x.note(0, 1, 1, 1, 1);
        x.mark(0, 1, 1, 1);
        x.year(7);
        x.image(0);
        x.left(1, 1, 5);
        tell(x, "  chapter ;seat2 01 9;seat 0 0 40 ; canon 3 9;sits 0 1;years 02;sits 0 1;sits 0 0;  ");
        due("read()", x.read(), 8);
        due("count(0)", x.count(0), 2);
        due("count(1)", x.count(1), 1);
        due("count(2)", x.count(2), 2);
        due("count(3)", x.count(3), 1);
        due("of(0, 0)", x.of(0, 0), 2);
        due("of(0, 1)", x.of(0, 1), 1);
        // a deacon of 9 is heavy by 18: 6 a year
        due("of(1, 2)", x.of(1, 2), 28);
        due("about(0, 2)", x.about(0, 2), 0);
        for (int i = 6; i <= 9; i++) {
            due("count(" + i + ")", x.count(i), 0);
        }
        due("count(10)", x.count(10), 84);
        due("part(0)", x.part(0), 3);
        due("undo()", x.undo(), SeatScene.NO);
        due("from(0)", x.from(0), 1);
        due("count(2)", x.count(2), 7);
        tell(x, "chapter;");
        due("read()", x.read(), 1);
        due("count(0)", x.count(0), 0);
    }

    private static void faults() {
        Check.promise("promise 7, faults");
        fault("", 0);
        fault("   ", 3);
        fault("chapter", 7);
        fault("chapter seat", 8);
        fault("seat 0 0 0;", 0);
        fault(";", 0);
        fault("7", 0);
        fault(" chapters;", 1);
        fault("chapte", 0);
        fault("Chapter;", 0);
        fault("chapter; chapter;", 9);
        fault("chapter;;", 8);
        fault("chapter;\tseat 0 0 0;", 8);
        fault("chapter;se", 8);
        fault("chapter;seat", 12);
        fault("chapter;seat ", 13);
        fault("chapter;seat ;", 13);
        fault("chapter;seat x;", 13);
        fault("chapter;seat 6 0 0;", 13);
        fault("chapter;seat 5 4 0;", 15);
        fault("chapter;seat 5 3 41;", 17);
        fault("chapter;seat 5 3 000;", 17);
        fault("chapter;seat 123 3 0;", 13);
        fault("chapter;seat 5 3 4", 18);
        fault("chapter;seat 5 3 4 ", 19);
        fault("chapter;seat 5 3 4 5;", 19);
        fault("chapter;seat 5 -3 4;", 15);
        fault("chapter;canon 6 1;", 14);
        fault("chapter;canon 0 0;", 16);
        fault("chapter;canon 0 10;", 16);
        fault("chapter;sits 0 0;", 13);
        fault("chapter;canon 0 1;sits 0 0;", 25);
        fault("chapter;canon 0 1;sits 1 0;", 23);
        fault("chapter;seat 0 0 0;canon 0 1;canon 0 1;sits 0 0;sits 1 0;", 55);
        fault("chapter;seat 0 0 0;canon 0 1;canon 0 1;sits 0 0;sits 1 1;", 55);
        fault("chapter;seat 0 0 7;seat 0 0 3;canon 0 1;canon 0 1;sits 0 1;sits 1 0;sits 1 1;", 75);
        fault("xhapter;", 0);
        fault("chapter;xeat 0 0 0;", 8);
        fault("chapter;seatz 0 0 0;", 8);
        fault("chapter;seat`0 0 0;", 12);
        fault("chapter;seat{0 0 0;", 12);
        fault("chapter;seat/0 0 0;", 12);
        fault("chapter;seat:0 0 0;", 12);
        fault("chapter;seat 0 0 0zz", 18);
        fault("chapter;seatseat", 8);
        fault("chapter;1 2 3;", 8);
        fault("chapter;years 0;", 14);
        fault("chapter;years 31;", 14);
        fault("chapter;years 30", 16);
        fault("chapter;999;", 8);
        fault("chapter;seat0 0 0;seat0 0 0;seat0 0 0;seat0 0 0;seat0 0 0;seat0 0 0;seat0 0 0;seat", 78);
        fault("chapter;canon0 1;canon0 1;canon0 1;canon0 1;canon0 1;canon0 1", 53);
        SeatScene x = new SeatScene();
        tell(x, "chapter;seat0 0 0;seat0 0 0;seat0 0 0;seat0 0 0;seat0 0 0;seat0 0 0;seat0 0 0;");
        due("seven seats", x.read(), 8);
        tell(x, "chapter;canon0 1;canon0 1;canon0 1;canon0 1;canon0 1;");
        due("five canons", x.read(), 6);
        tell(x, "chapter;seat5 3 40;canon5 9;canon0 9;canon0 1;sits1 0;sits1 0;");
        due("the greatest numbers", x.read(), 7);
        due("about(0, 0)", x.about(0, 0), 5);
        due("about(1, 2)", x.about(1, 2), 0);
        tell(x, "chapter;years 30;years 1;");
        due("years 30", x.read(), 3);
        due("count(2)", x.count(2), 31);
    }

    private static void fault(String text, int place) {
        SeatScene x = pair();
        x.year(2);
        tell(x, text);
        long before = x.digest();
        due("read() of '" + text + "'", x.read(), -10 - place);
        due("digest() behind it", x.digest(), before);
        due("status(0) behind it", x.status(0), 0);
        due("undo() behind it", x.undo(), 0);
    }

    private static void sits() {
        Check.promise("promise 8, sits");
        SeatScene x = new SeatScene();
        x.seat(0, 0, 9);
        x.seat(0, 0, 9);
        x.canon(0, 1);
        x.canon(0, 1);
        due("sits(0, 1)", x.sits(0, 1), SeatScene.NONE);
        due("of(1, 3)", x.of(1, 3), 0);
        due("sits(1, 1)", x.sits(1, 1), SeatScene.NO);
        due("sits(0, 1) again", x.sits(0, 1), 1);
        due("sits(0, 0)", x.sits(0, 0), 1);
        due("sits(1, 1)", x.sits(1, 1), SeatScene.NONE);
        due("sits(0, NONE)", x.sits(0, SeatScene.NONE), 0);
        due("sits(0, NONE) again", x.sits(0, SeatScene.NONE), SeatScene.NONE);
        due("sits(1, NONE)", x.sits(1, SeatScene.NONE), 1);
        due("count(9)", x.count(9), 7);
        due("count(3)", x.count(3), 0);
        due("sits(0, 2)", x.sits(0, 2), -10);
        due("sits(0, -2)", x.sits(0, -2), -10);
        due("sits(2, 0)", x.sits(2, 0), -10);
        due("sits(-1, 0)", x.sits(-1, 0), -10);
        due("status(0)", x.status(0), 4);
        due("status(1)", x.status(1), 1);
    }

    private static void swap() {
        Check.promise("promise 9, swap");
        SeatScene x = pair();
        x.canon(0, 1);
        due("swap(0, 1)", x.swap(0, 1), 1);
        due("about(0, 2)", x.about(0, 2), 1);
        due("about(1, 2)", x.about(1, 2), 0);
        due("swap(2, 0)", x.swap(2, 0), 1);
        due("about(2, 2)", x.about(2, 2), 1);
        due("about(0, 2)", x.about(0, 2), SeatScene.NONE);
        due("count(9)", x.count(9), 2);
        due("undo()", x.undo(), 0);
        due("about(0, 2)", x.about(0, 2), 1);
        due("swap(1, 1)", x.swap(1, 1), SeatScene.BAD);
        due("swap(0, 3)", x.swap(0, 3), SeatScene.BAD);
        due("swap(-1, 0)", x.swap(-1, 0), SeatScene.BAD);
    }

    private static void year() {
        Check.promise("promise 10, year");
        SeatScene x = pair();
        // seat 0: 10, then depth 37: 9; seat 1: 2 * 5, then depth 19: 2 * 4
        due("year(1)", x.year(1), 2);
        due("taken(0, 1)", x.taken(0, 1), 10);
        due("taken(1, 2)", x.taken(1, 2), 10);
        due("of(0, 2)", x.of(0, 2), 37);
        due("of(1, 2)", x.of(1, 2), 19);
        due("of(2, 2)", x.of(2, 2), 8);
        due("year(1)", x.year(1), 2);
        due("taken(0, 1)", x.taken(0, 1), 19);
        due("taken(1, 2)", x.taken(1, 2), 18);
        due("count(9)", x.count(9), 4);
        due("year(30)", x.year(30), 2);
        due("count(9)", x.count(9), 5);
        due("count(2)", x.count(2), 32);
        due("of(0, 2)", x.of(0, 2), 0);
        due("year(0)", x.year(0), SeatScene.BAD);
        due("year(31)", x.year(31), SeatScene.BAD);
        SeatScene y = new SeatScene();
        y.seat(2, 3, 40);
        y.seat(0, 3, 39);
        y.canon(2, 1);
        y.canon(0, 1);
        y.sits(0, 0);
        y.sits(1, 1);
        due("one of two does", y.year(1), 1);
        due("year(4)", y.year(4), 2);
        due("99 at most", y.taken(0, 3), 99);
        due("the other one", y.taken(1, 3), 45);
        due("not cut by 99", y.takes(0, 0), 21);
    }

    private static void lastYear() {
        Check.promise("promise 10, the last year");
        SeatScene x = pair();
        x.sits(0, SeatScene.NONE);
        x.sits(1, SeatScene.NONE);
        for (int i = 0; i < 33; i++) {
            x.year(30);
        }
        due("count(2)", x.count(2), 990);
        x.sits(0, 0);
        due("year(30) over the end", x.year(30), 1);
        due("count(2)", x.count(2), 999);
        // 9 years at 3 a year
        due("of(0, 2)", x.of(0, 2), 13);
        int had = x.taken(0, 1);
        due("year(5) at 999", x.year(5), 1);
        due("count(2)", x.count(2), 999);
        due("of(0, 2)", x.of(0, 2), 13);
        due("taken(0, 1)", x.taken(0, 1), had);
        due("years go beyond 999 ahead", x.depth(0, 4), 1);
        due("then", x.then(0, 1, 1), had + 3);
        due("undo() of no years", x.undo(), 999);
        due("undo() of the last nine", x.undo(), 990);
    }

    private static void undo() {
        Check.promise("promise 11, undo");
        SeatScene x = pair();
        x.year(2);
        x.swap(0, 1);
        x.year(3);
        due("undo()", x.undo(), 2);
        due("about(0, 2)", x.about(0, 2), 1);
        due("taken(0, 1)", x.taken(0, 1), 19);
        due("of(0, 2)", x.of(0, 2), 34);
        due("undo()", x.undo(), 2);
        due("about(0, 2)", x.about(0, 2), 0);
        due("undo()", x.undo(), 0);
        due("taken(0, 1)", x.taken(0, 1), 0);
        due("of(0, 2)", x.of(0, 2), 40);
        due("undo() of sits", x.undo(), 0);
        due("count(3)", x.count(3), 1);
        due("undo() of sits", x.undo(), 0);
        due("count(3)", x.count(3), 0);
        due("none left", x.undo(), SeatScene.NO);
        for (int i = 1; i <= 9; i++) {
            x.year(i);
        }
        due("8 at most", x.count(9), 8);
        int[] then = {36, 28, 21, 15, 10, 6, 3, 1};
        for (int y : then) {
            due("undo()", x.undo(), y);
        }
        due("a ninth", x.undo(), SeatScene.NO);
        x.year(1);
        x.seat(0, 0, 0);
        due("behind a seat", x.undo(), SeatScene.NO);
        x.year(1);
        x.canon(0, 1);
        due("behind a canon", x.undo(), SeatScene.NO);
        x.year(1);
        x.seat(6, 0, 0);
        x.canon(0, 0);
        x.wish(0, 0, 3);
        x.type(3);
        x.left(0, 1, 3);
        due("behind refused ones, a wish, a byte", x.undo(), 3);
        due("the wish stays", x.count(6), 1);
        due("the fraction stays", x.part(0), 1);
    }

    private static void of() {
        Check.promise("promise 12, of");
        SeatScene x = pair();
        int[] want = {2, 2, 20, 1};
        for (int i = 0; i <= 3; i++) {
            due("of(1, " + i + ")", x.of(1, i), want[i]);
        }
        due("of(2, 3)", x.of(2, 3), SeatScene.NONE);
        due("of(3, 0)", x.of(3, 0), -10);
        due("of(-1, 0)", x.of(-1, 0), -10);
        due("of(0, 4)", x.of(0, 4), -10);
        due("of(0, -1)", x.of(0, -1), -10);
        due("status(0)", x.status(0), 4);
    }

    private static void about() {
        Check.promise("promise 13, about");
        SeatScene x = new SeatScene();
        x.seat(0, 1, 36);
        x.seat(0, 0, 40);
        x.canon(2, 7);
        x.sits(0, 0);
        x.year(1);
        int[] want = {2, 7, 0, 1, 4};
        for (int i = 0; i <= 4; i++) {
            due("about(0, " + i + ")", x.about(0, i), want[i]);
        }
        due("about(0, 5)", x.about(0, 5), -10);
        due("about(0, -1)", x.about(0, -1), -10);
        due("about(1, 0)", x.about(1, 0), -10);
        due("status(0)", x.status(0), 3);
        SeatScene y = new SeatScene();
        y.seat(0, 3, 36);
        y.seat(0, 2, 4);
        y.canon(0, 1);
        y.sits(0, 0);
        y.year(1);
        due("nine are too few", y.about(0, 3), SeatScene.NONE);
        y.sits(0, 1);
        y.year(9);
        due("nine and nine", y.about(0, 3), SeatScene.NONE);
        y.year(1);
        due("ten", y.about(0, 3), 2);
        y.sits(0, 0);
        y.year(1);
        due("most", y.about(0, 3), 3);
        y.sits(0, 1);
        y.year(8);
        due("of like ones the least", y.about(0, 3), 2);
    }

    private static void taken() {
        Check.promise("promise 14, taken");
        SeatScene x = pair();
        x.year(1);
        int[] want = {0, 10, 0, 0};
        for (int t = 0; t <= 3; t++) {
            due("taken(0, " + t + ")", x.taken(0, t), want[t]);
        }
        due("taken(0, 4)", x.taken(0, 4), SeatScene.BAD);
        due("taken(0, -1)", x.taken(0, -1), SeatScene.BAD);
        due("taken(2, 0)", x.taken(2, 0), SeatScene.BAD);
    }

    private static void takes() {
        Check.promise("promise 15, takes");
        SeatScene x = pair();
        due("takes(0, 0)", x.takes(0, 0), 10);
        due("where another sits", x.takes(0, 1), 10);
        due("takes(1, 2)", x.takes(1, 2), 2);
        x.seat(4, 1, 12);
        due("gilt in an even year", x.takes(0, 3), 6);
        x.year(1);
        due("gilt in an odd year", x.takes(0, 3), 3);
        due("takes(0, 4)", x.takes(0, 4), SeatScene.BAD);
        due("takes(2, 0)", x.takes(2, 0), SeatScene.BAD);
        due("takes(0, NONE)", x.takes(0, SeatScene.NONE), SeatScene.BAD);
    }

    private static void then() {
        Check.promise("promise 16, then");
        SeatScene x = pair();
        long before = x.digest();
        due("then(0, 1, 0)", x.then(0, 1, 0), 0);
        due("then(0, 1, 1)", x.then(0, 1, 1), 10);
        // depths 40, 37, 34, 31, 28, 25, 22, 19, 16, 13, 10, 7, 4, 1: 10 9 8 7 7 6 5 4 4 3 2 1 1 0
        due("then(0, 1, 13)", x.then(0, 1, 13), 67);
        due("then(0, 1, 60)", x.then(0, 1, 60), 67);
        due("then(1, 2, 2)", x.then(1, 2, 2), 18);
        due("then(1, 1, 9)", x.then(1, 1, 9), 0);
        due("digest()", x.digest(), before);
        due("then(0, 1, 61)", x.then(0, 1, 61), SeatScene.BAD);
        due("then(0, 1, -1)", x.then(0, 1, -1), SeatScene.BAD);
        due("then(0, 4, 1)", x.then(0, 4, 1), SeatScene.BAD);
        due("then(2, 0, 1)", x.then(2, 0, 1), SeatScene.BAD);
    }

    private static void depth() {
        Check.promise("promise 17, depth");
        SeatScene x = pair();
        long before = x.digest();
        due("depth(0, 0)", x.depth(0, 0), 40);
        due("depth(0, 5)", x.depth(0, 5), 25);
        due("depth(0, 60)", x.depth(0, 60), 0);
        due("depth(1, 3)", x.depth(1, 3), 17);
        due("one on which none sits", x.depth(2, 60), 8);
        due("digest()", x.digest(), before);
        due("depth(3, 0)", x.depth(3, 0), SeatScene.BAD);
        due("depth(0, 61)", x.depth(0, 61), SeatScene.BAD);
        due("depth(0, -1)", x.depth(0, -1), SeatScene.BAD);
    }

    private static void when() {
        Check.promise("promise 18, when");
        SeatScene x = pair();
        due("when(0, 1, 1)", x.when(0, 1, 1), 1);
        due("when(0, 1, 10)", x.when(0, 1, 10), 1);
        due("when(0, 1, 11)", x.when(0, 1, 11), 2);
        due("when(0, 1, 67)", x.when(0, 1, 67), 13);
        due("when(0, 1, 68)", x.when(0, 1, 68), SeatScene.NONE);
        due("when(0, 2, 1)", x.when(0, 2, 1), SeatScene.NONE);
        x.year(1);
        due("now", x.when(0, 1, 10), 0);
        due("when(0, 1, 0)", x.when(0, 1, 0), SeatScene.BAD);
        due("when(0, 1, 100)", x.when(0, 1, 100), SeatScene.BAD);
        due("when(0, 4, 1)", x.when(0, 4, 1), SeatScene.BAD);
        due("when(2, 1, 1)", x.when(2, 1, 1), SeatScene.BAD);
        SeatScene y = new SeatScene();
        y.seat(0, 0, 4);
        y.canon(0, 1);
        y.sits(0, 0);
        due("in the 60th year", y.when(0, 0, 60), 60);
        due("a year too late", y.when(0, 0, 61), SeatScene.NONE);
        SeatScene z = new SeatScene();
        z.seat(4, 0, 40);
        z.canon(0, 1);
        z.sits(0, 0);
        // 20 in year 0, then 39: 9, then 38: 18
        due("gilt in an odd year", z.when(0, 0, 30), 3);
        due("gilt in two years", z.when(0, 0, 29), 2);
    }

    private static void first() {
        Check.promise("promise 19, first");
        SeatScene x = new SeatScene();
        x.seat(0, 1, 20);
        x.seat(0, 1, 40);
        x.seat(0, 1, 40);
        x.canon(0, 1);
        x.canon(0, 1);
        x.canon(0, 1);
        x.sits(0, 0);
        x.sits(1, 1);
        x.sits(2, 2);
        due("first(1, 0)", x.first(1, 0), 1);
        due("first(1, 1)", x.first(1, 1), 1);
        due("first(0, 0)", x.first(0, 0), SeatScene.NONE);
        due("first(0, 1)", x.first(0, 1), SeatScene.NONE);
        x.year(1);
        due("first(1, 1) now", x.first(1, 1), 0);
        due("first(4, 0)", x.first(4, 0), SeatScene.BAD);
        due("first(1, 2)", x.first(1, 2), SeatScene.BAD);
        due("first(1, -1)", x.first(1, -1), SeatScene.BAD);
        due("no canon", new SeatScene().first(0, 0), SeatScene.NONE);
        SeatScene y = new SeatScene();
        y.seat(0, 1, 4);
        y.canon(0, 1);
        y.sits(0, 0);
        due("ten years on", y.first(1, 1), 10);
        due("in the 60th year", slow(60).first(0, 1), 60);
        due("a year too late", slow(61).first(0, 1), SeatScene.NONE);
    }

    /** One who has taken so much of trait 1, and takes 1 a year of trait 0 from now on. */
    private static SeatScene slow(int had) {
        SeatScene x = new SeatScene();
        x.seat(0, 0, 4);
        x.seat(0, 1, 4);
        x.canon(0, 1);
        x.sits(0, 1);
        for (int i = 0; i < had; i++) {
            x.year(1);
        }
        x.sits(0, 0);
        return x;
    }

    private static void blank() {
        Check.promise("promise 20, blank");
        SeatScene x = pair();
        // 40 less 3 a year: below 4 behind 13 years
        due("blank(0)", x.blank(0), 13);
        // 20 less 1 a year: below 4 behind 17
        due("blank(1)", x.blank(1), 17);
        due("blank(2)", x.blank(2), SeatScene.NONE);
        due("blank(3)", x.blank(3), SeatScene.BAD);
        due("blank(-1)", x.blank(-1), SeatScene.BAD);
        x.seat(3, 0, 11);
        due("a loaf", x.blank(3), 0);
        x.seat(5, 0, 3);
        x.sits(0, 4);
        due("hands: to one who has taken 0", x.blank(4), 0);
        SeatScene y = new SeatScene();
        y.seat(0, 0, 40);
        y.canon(0, 3);
        y.sits(0, 0);
        due("behind 37 years", y.blank(0), 37);
        // gilt: twice as much of a depth below 4 is nothing, too; oak worn by 9: 3 by 2, 1 a year
        y.seat(4, 0, 3);
        due("gilt", y.blank(1), 0);
        SeatScene z = new SeatScene();
        z.seat(0, 0, 40);
        z.canon(0, 1);
        z.canon(0, 3);
        z.sits(1, 0);
        z.year(1);
        z.swap(0, 1);
        due("worn by none", z.blank(0), SeatScene.NONE);
    }

    private static void place() {
        Check.promise("promise 21, place");
        SeatScene x = pair();
        x.seat(0, 1, 40);
        x.seat(2, 1, 40);
        x.seat(2, 1, 40);
        due("place(0, 1, 20, 0)", x.place(0, 1, 20, 0), 4);
        due("place(0, 1, 20, 1)", x.place(0, 1, 20, 1), 1);
        due("place(0, 1, 10, 0)", x.place(0, 1, 10, 0), 0);
        due("his own seat", x.place(0, 1, 10, 1), 1);
        due("not another's", x.place(1, 1, 10, 0), 3);
        due("place(1, 3, 99, 0)", x.place(1, 3, 99, 0), SeatScene.NONE);
        due("place(1, 3, 99, 1)", x.place(1, 3, 99, 1), SeatScene.NONE);
        x.year(1);
        due("had already: the least free", x.place(0, 1, 10, 0), 0);
        due("had already", x.place(0, 1, 10, 1), 0);
        due("place(2, 1, 1, 0)", x.place(2, 1, 1, 0), SeatScene.BAD);
        due("place(0, 4, 1, 0)", x.place(0, 4, 1, 0), SeatScene.BAD);
        due("place(0, 1, 0, 0)", x.place(0, 1, 0, 0), SeatScene.BAD);
        due("place(0, 1, 100, 0)", x.place(0, 1, 100, 0), SeatScene.BAD);
        due("place(0, 1, 1, 2)", x.place(0, 1, 1, 2), SeatScene.BAD);
        SeatScene y = new SeatScene();
        y.canon(0, 1);
        due("no seat", y.place(0, 0, 1, 0), SeatScene.NONE);
        y.seat(0, 0, 4);
        due("in the 60th year", y.place(0, 0, 60, 1), 60);
        due("a year too late", y.place(0, 0, 61, 1), SeatScene.NONE);
    }

    private static void wish() {
        Check.promise("promise 22, wish");
        SeatScene x = pair();
        for (int i = 1; i <= 6; i++) {
            due("wish " + i, x.wish(1, 3, i == 6 ? 99 : 0), i);
        }
        due("a seventh", x.wish(0, 0, 0), SeatScene.FULL);
        due("a bad seventh", x.wish(2, 0, 0), SeatScene.BAD);
        x.forget(0);
        due("wish(0, 4, 0)", x.wish(0, 4, 0), SeatScene.BAD);
        due("wish(0, 0, -1)", x.wish(0, 0, -1), SeatScene.BAD);
        due("wish(0, 0, 100)", x.wish(0, 0, 100), SeatScene.BAD);
        due("count(6)", x.count(6), 0);
    }

    private static void seating() {
        Check.promise("promise 23, seating");
        due("nobody", new SeatScene().seating(3, SeatScene.NONE), 0);
        SeatScene x = pair();
        long before = x.digest();
        due("no wishes", x.seating(3, SeatScene.NONE), 0);
        due("on none is least", x.seating(3, 0), SeatScene.NONE);
        x.wish(0, 1, 10);
        x.wish(1, 1, 10);
        x.wish(1, 3, 2);
        x.wish(0, 0, 0);
        due("at once", x.seating(0, SeatScene.NONE), 1);
        // 0 on seat 0 and 1 on seat 2; 1 on seat 0 brings one less
        due("in a year", x.seating(1, SeatScene.NONE), 3);
        due("he", x.seating(1, 0), 0);
        due("the other", x.seating(1, 1), 2);
        x.forget(0);
        x.wish(0, 1, 10);
        x.wish(1, 1, 10);
        due("of like ways", x.seating(1, SeatScene.NONE), 1);
        due("the first: he on none", x.seating(1, 0), SeatScene.NONE);
        due("the first: the other on 0", x.seating(1, 1), 0);
        x.forget(0);
        due("digest()", x.digest(), before);
        x.wish(0, 3, 24);
        due("seating(12, NONE)", x.seating(12, SeatScene.NONE), 0);
        x.forget(0);
        // a weight of 9 wears 8 in three years: 2, 1, 0
        x.wish(0, 3, 3);
        due("seating(1, NONE)", x.seating(1, SeatScene.NONE), 0);
        due("seating(2, NONE)", x.seating(2, SeatScene.NONE), 1);
        due("seating(2, 0)", x.seating(2, 0), 2);
        seatingOfMany();
        due("seating(13, NONE)", x.seating(13, SeatScene.NONE), -10);
        due("seating(-1, NONE)", x.seating(-1, SeatScene.NONE), -10);
        due("seating(1, 2)", x.seating(1, 2), -10);
        due("seating(1, -2)", x.seating(1, -2), -10);
        due("status(0)", x.status(0), 4);
    }

    private static void seatingOfMany() {
        SeatScene y = new SeatScene();
        for (int i = 0; i < 5; i++) {
            y.seat(0, i % 4, i == 4 ? 40 : 20);
            y.canon(0, 1);
            y.wish(i, i % 4, i == 4 ? 10 : 5);
        }
        due("to each his own", y.seating(1, SeatScene.NONE), 5);
        for (int i = 0; i < 5; i++) {
            due("seating(1, " + i + ")", y.seating(1, i), i);
        }
        SeatScene x = new SeatScene();
        x.seat(0, 0, 0);
        x.seat(4, 1, 40);
        x.seat(0, 2, 40);
        for (int i = 0; i < 5; i++) {
            x.canon(0, 1);
        }
        // all on one gilt seat: 20, then 9
        x.wish(0, 1, 29);
        x.wish(1, 1, 30);
        x.wish(2, 1, 20);
        due("in one year", x.seating(1, SeatScene.NONE), 1);
        due("the third alone", x.seating(1, 2), 1);
        due("in two years", x.seating(2, SeatScene.NONE), 1);
        due("the third, for he comes last", x.seating(2, 2), 1);
        due("the first on none", x.seating(2, 0), SeatScene.NONE);
        x.forget(0);
        x.wish(0, 1, 30);
        due("half in the odd year", x.seating(2, SeatScene.NONE), 0);
        x.forget(0);
        x.wish(0, 1, 29);
        x.wish(1, 1, 30);
        x.wish(2, 1, 20);
        x.wish(0, 2, 10);
        x.wish(2, 2, 19);
        x.wish(3, 1, 1);
        due("two of six", x.seating(2, SeatScene.NONE), 2);
        int[] way = {-1, -1, 2, 1, -1};
        for (int c = 0; c < 5; c++) {
            due("seating(2, " + c + ")", x.seating(2, c), way[c]);
        }
        x.forget(0);
        for (int c = 2; c < 5; c++) {
            x.wish(c, 1, 1);
            x.wish(c, 2, 1);
        }
        due("the later ones", x.seating(1, SeatScene.NONE), 2);
        due("the fourth", x.seating(1, 3), 1);
        due("the fifth", x.seating(1, 4), 2);
        // fewer canons behind more of them
        x.chapter();
        x.seat(0, 0, 40);
        x.seat(0, 0, 40);
        x.canon(0, 1);
        x.canon(0, 1);
        x.wish(0, 0, 1);
        x.wish(1, 0, 1);
        due("two seats for two", x.seating(1, SeatScene.NONE), 2);
        due("the first of two ways", x.seating(1, 0), 0);
        due("the second", x.seating(1, 1), 1);
        x.forget(0);
        due("no wishes: on none", x.seating(1, 1), SeatScene.NONE);
    }

    private static SeatScene traits(int... traits) {
        SeatScene x = new SeatScene();
        for (int t : traits) {
            x.seat(0, t, 0);
        }
        return x;
    }

    private static void quarrels() {
        Check.promise("promise 24, quarrels");
        due("none at all", traits().quarrels(), 0);
        due("one seat", traits(1).quarrels(), 0);
        due("0 0 0 1 1", traits(0, 0, 0, 1, 1).quarrels(), 3);
        due("0 1 0 1", traits(0, 1, 0, 1).quarrels(), 0);
        due("seven alike", traits(2, 2, 2, 2, 2, 2, 2).quarrels(), 6);
    }

    private static void rowDue(SeatScene x, int... order) {
        for (int i = 0; i < order.length; i++) {
            due("row(" + i + ")", x.row(i), order[i]);
        }
        due("row(-1)", x.row(-1), SeatScene.BAD);
        due("row(" + order.length + ")", x.row(order.length), SeatScene.BAD);
    }

    private static void row() {
        Check.promise("promise 25, row");
        rowDue(traits());
        rowDue(traits(3), 0);
        rowDue(traits(0, 0, 1, 1), 0, 2, 1, 3);
        rowDue(traits(0, 1, 1, 1, 0), 1, 0, 2, 4, 3);
        rowDue(traits(0, 1, 2, 3), 0, 1, 2, 3);
        rowDue(traits(0, 1, 1), 1, 0, 2);
        rowDue(traits(0, 0), SeatScene.NONE, SeatScene.NONE);
        rowDue(traits(0, 0, 0, 0, 0, 1, 2), -1, -1, -1, -1, -1, -1, -1);
        rowDue(traits(2, 0, 0, 0, 0, 1, 1), 1, 0, 2, 5, 3, 6, 4);
    }

    private static void blur() {
        Check.promise("promise 26, blur");
        SeatScene x = new SeatScene();
        x.seat(0, 0, 10);
        x.seat(0, 0, 0);
        x.seat(5, 0, 7);
        x.canon(0, 9);
        due("blur(0, 0, 0, 0)", x.blur(0, 0, 0, 0), 1);
        due("blur(0, 0, 0, 1)", x.blur(0, 0, 0, 1), 10);
        due("blur(0, 0, 10, 1)", x.blur(0, 0, 10, 1), 40);
        due("blur(0, 0, 11, 0)", x.blur(0, 0, 11, 0), 0);
        due("blur(0, 0, 11, 1)", x.blur(0, 0, 11, 1), SeatScene.NONE);
        due("blur(0, 0, 11, 2)", x.blur(0, 0, 11, 2), SeatScene.NONE);
        due("blur(1, 0, 4, 0)", x.blur(1, 0, 4, 0), 13);
        due("blur(1, 0, 4, 1)", x.blur(1, 0, 4, 1), 0);
        due("blur(1, 0, 4, 2)", x.blur(1, 0, 4, 2), 12);
        due("blur(1, 0, 20, 2)", x.blur(1, 0, 20, 2), 40);
        due("blur(1, 0, 20, 0)", x.blur(1, 0, 20, 0), 41);
        due("hands", x.blur(2, 0, 20, 2), 7);
        due("blur(3, 0, 0, 0)", x.blur(3, 0, 0, 0), SeatScene.BAD);
        due("blur(0, 1, 0, 0)", x.blur(0, 1, 0, 0), SeatScene.BAD);
        due("blur(0, 0, 21, 0)", x.blur(0, 0, 21, 0), SeatScene.BAD);
        due("blur(0, 0, -1, 0)", x.blur(0, 0, -1, 0), SeatScene.BAD);
        due("blur(0, 0, 0, 3)", x.blur(0, 0, 0, 3), SeatScene.BAD);
    }

    private static void where() {
        Check.promise("promise 27, where");
        SeatScene x = pair();
        x.seat(0, 1, 3);
        due("where(0, 1, 10)", x.where(0, 1, 10), 1);
        due("of other traits 0", x.where(0, 1, 0), 2 + 4 + 8);
        due("where(1, 2, 10)", x.where(1, 2, 10), 2);
        due("where(1, 0, 0)", x.where(1, 0, 0), 15);
        due("where(1, 0, 60)", x.where(1, 0, 60), 0);
        due("no seats", new SeatScene().where(0, 0, 0), SeatScene.BAD);
        due("where(0, 0, 61)", x.where(0, 0, 61), SeatScene.BAD);
        due("where(0, 0, -1)", x.where(0, 0, -1), SeatScene.BAD);
        due("where(0, 4, 0)", x.where(0, 4, 0), SeatScene.BAD);
        due("where(2, 0, 0)", x.where(2, 0, 0), SeatScene.BAD);
    }

    private static void note() {
        Check.promise("promise 28, note");
        SeatScene x = pair();
        due("note 1", x.note(0, 0, 0, 0, 0), 1);
        for (int i = 2; i <= 6; i++) {
            due("note " + i, x.note(2, 40, 99, 99, 40), i);
        }
        due("a seventh", x.note(0, 0, 0, 0, 0), SeatScene.FULL);
        due("a bad seventh", x.note(3, 0, 0, 0, 0), SeatScene.BAD);
        x.forget(1);
        due("d", x.note(0, 41, 0, 0, 0), SeatScene.BAD);
        due("y", x.note(0, 0, 100, 0, 0), SeatScene.BAD);
        due("h", x.note(0, 0, 0, 100, 0), SeatScene.BAD);
        due("x", x.note(0, 0, 0, 0, 41), SeatScene.BAD);
        due("d", x.note(0, -1, 0, 0, 0), SeatScene.BAD);
        due("y", x.note(0, 0, -1, 0, 0), SeatScene.BAD);
        due("h", x.note(0, 0, 0, -1, 0), SeatScene.BAD);
        due("x", x.note(0, 0, 0, 0, -1), SeatScene.BAD);
        due("count(7)", x.count(7), 0);
    }

    private static void mark() {
        Check.promise("promise 29, mark");
        SeatScene x = pair();
        due("mark 1", x.mark(0, 0, 0, 0), 1);
        for (int i = 2; i <= 6; i++) {
            due("mark " + i, x.mark(1, 40, 99, 60), i);
        }
        due("a seventh", x.mark(0, 0, 0, 0), SeatScene.FULL);
        due("a bad seventh", x.mark(2, 0, 0, 0), SeatScene.BAD);
        x.forget(2);
        due("g", x.mark(0, 41, 0, 0), SeatScene.BAD);
        due("h", x.mark(0, 0, 100, 0), SeatScene.BAD);
        due("x", x.mark(0, 0, 0, 61), SeatScene.BAD);
        due("g", x.mark(0, -1, 0, 0), SeatScene.BAD);
        due("h", x.mark(0, 0, -1, 0), SeatScene.BAD);
        due("x", x.mark(0, 0, 0, -1), SeatScene.BAD);
        due("count(8)", x.count(8), 0);
    }

    private static void forget() {
        Check.promise("promise 30, forget");
        SeatScene x = pair();
        x.wish(0, 0, 0);
        x.note(0, 0, 0, 0, 0);
        x.note(0, 0, 0, 0, 0);
        x.mark(0, 0, 0, 0);
        x.mark(0, 0, 0, 0);
        x.mark(0, 0, 0, 0);
        due("forget(3)", x.forget(3), SeatScene.BAD);
        due("forget(-1)", x.forget(-1), SeatScene.BAD);
        due("forget(0)", x.forget(0), 1);
        due("count(6)", x.count(6), 0);
        due("count(7)", x.count(7), 2);
        due("forget(1)", x.forget(1), 2);
        due("count(7)", x.count(7), 0);
        due("count(8)", x.count(8), 3);
        due("forget(2)", x.forget(2), 3);
        due("forget(2) again", x.forget(2), 0);
    }

    private static void is() {
        Check.promise("promise 31, is");
        SeatScene x = pair();
        due("no notes", x.is(0), 63);
        x.note(0, 20, 0, 0, 10);
        due("twice plain", x.is(0), 4 + 16);
        due("another seat", x.is(1), 63);
        x.note(0, 20, 1, 0, 5);
        due("half in an odd year", x.is(0), 16);
        x.note(0, 20, 1, 0, 6);
        due("no kind", x.is(0), 0);
        x.forget(1);
        x.note(2, 20, 5, 99, 24);
        due("hands", x.is(2), 32);
        due("is(3)", x.is(3), SeatScene.BAD);
        due("is(-1)", x.is(-1), SeatScene.BAD);
    }

    private static void look() {
        Check.promise("promise 32, look");
        SeatScene x = new SeatScene();
        x.seat(0, 0, 20);
        x.seat(0, 0, 12);
        // 5 5 10 3 10 5 at 0; h 5 makes hands 6: 5 5 10 3 10 6
        due("look(0)", x.look(0), 500);
        x.note(0, 20, 0, 0, 10);
        // mermaid and gilt: unlike in an odd year
        due("mermaid or gilt", x.look(0), 1);
        x.note(0, 20, 1, 0, 5);
        due("one kind", x.look(0), 0);
        x.note(0, 20, 1, 0, 6);
        due("no kind", x.look(0), SeatScene.NONE);
        // plain, oak, hands: 3 3 3, hands other behind 5
        x.forget(1);
        x.note(1, 12, 0, 0, 3);
        due("plain, oak or hands", x.look(1), 500);
        due("look(2)", x.look(2), SeatScene.BAD);
        due("look(-1)", x.look(-1), SeatScene.BAD);
    }

    private static void what() {
        Check.promise("promise 33, what");
        SeatScene x = pair();
        due("no marks", x.what(0), 63);
        x.mark(0, 7, 5, 8);
        due("young or prebend", x.what(0), 4 + 16);
        due("another canon", x.what(1), 63);
        x.mark(0, 7, 20, 0);
        due("prebend", x.what(0), 16);
        x.mark(0, 0, 0, 9);
        due("no kind", x.what(0), 0);
        x.mark(1, 7, 0, 7);
        due("plain or bishop", x.what(1), 1 + 32);
        due("what(2)", x.what(2), SeatScene.BAD);
        due("what(-1)", x.what(-1), SeatScene.BAD);
    }

    private static void tries() {
        Check.promise("promise 34, tries");
        SeatScene x = pair();
        // g 1, h 0: 1 0 2 0 2 1, two alike at most
        due("all kinds", x.tries(0), 100);
        x.mark(0, 7, 5, 8);
        due("young or prebend", x.tries(0), 120);
        x.mark(0, 7, 20, 0);
        due("one kind", x.tries(0), 0);
        x.mark(0, 7, 20, 1);
        due("no kind", x.tries(0), SeatScene.NONE);
        x.mark(1, 7, 0, 7);
        // plain or bishop: g 1, h 1: 1 and 0
        due("plain or bishop", x.tries(1), 101);
        due("tries(2)", x.tries(2), SeatScene.BAD);
        due("tries(-1)", x.tries(-1), SeatScene.BAD);
    }

    private static void two() {
        Check.promise("promise 35, two");
        SeatScene x = pair();
        twoOfUnlikeSeats();
        // both would take 10, 10, 2
        due("two(0, 1, NONE)", x.two(0, 1, SeatScene.NONE), 2);
        due("two(0, 1, 0)", x.two(0, 1, 0), 1);
        due("two(0, 1, 1)", x.two(0, 1, 1), 7);
        due("two(0, 1, 2)", x.two(0, 1, 2), -5);
        due("not so many", x.two(0, 1, Integer.MAX_VALUE), -5);
        due("-5 is not refused", x.status(0) + x.status(1) + x.status(2), 0);
        due("two(0, 0, 0)", x.two(0, 0, 0), -10);
        due("two(0, 2, 0)", x.two(0, 2, 0), -10);
        due("two(0, 1, -2)", x.two(0, 1, -2), -10);
        due("status(0)", x.status(0), 3);
        SeatScene y = new SeatScene();
        y.canon(0, 1);
        y.canon(0, 1);
        due("no seats", y.two(0, 1, SeatScene.NONE), 0);
        y.seat(0, 0, 40);
        due("one seat: both nothing", y.two(0, 1, 0), 0);
        y.seat(0, 0, 0);
        // on (0, 0) neither gets more on seat 1; on (0, 1) and (1, 0) neither; on (1, 1) both
        due("a blank one", y.two(0, 1, SeatScene.NONE), 3);
        due("the last", y.two(0, 1, 2), 7);
    }

    private static void twoOfUnlikeSeats() {
        SeatScene x = new SeatScene();
        x.seat(0, 0, 40);
        x.seat(0, 0, 4);
        x.seat(0, 1, 36);
        x.canon(0, 1);
        x.canon(3, 1);
        x.canon(1, 1);
        // the first would take 10, 1, 9, the deacon nothing anywhere, the dean 5, 0, 4
        due("the deacon rests anywhere", x.two(0, 1, SeatScene.NONE), 3);
        due("he on 2, the deacon on 0", x.two(0, 1, 2), 14);
        due("he on 0, the deacon on 1", x.two(0, 1, 0), 1);
        due("the deacon first", x.two(1, 0, 0), 2);
        due("first and dean", x.two(0, 2, SeatScene.NONE), 2);
        due("first and dean, 0 and 2", x.two(0, 2, 0), 2);
        due("first and dean, 2 and 0", x.two(0, 2, 1), 14);
        x = new SeatScene();
        x.seat(0, 0, 40);
        x.seat(0, 0, 4);
        x.canon(0, 1);
        x.canon(0, 1);
        due("ten or one", x.two(0, 1, SeatScene.NONE), 2);
        due("not both on ten", x.two(0, 1, 0), 1);
        due("not both on one", x.two(0, 1, 1), 7);
    }

    private static void fraction(SeatScene x, int k, int m, int c, long above, long below) {
        String call = "left(" + k + ", " + m + ", " + c + ")";
        due(call, x.left(k, m, c), 1);
        due("above of " + call, x.part(0), above);
        due("below of " + call, x.part(1), below);
    }

    private static void left() {
        Check.promise("promise 36, left");
        SeatScene x = pair();
        fraction(x, 1, 1, 5, 3, 4);
        fraction(x, 2, 1, 5, 1, 4);
        fraction(x, 2, 3, 5, 1, 64);
        fraction(x, 0, 3, 9, 1, 1);
        fraction(x, 3, 0, 0, 0, 1);
        fraction(x, 2, 0, 10, 1, 1);
        fraction(x, 1, 1, 10, 0, 1);
        fraction(x, 2, 3, 0, 1, 1);
        x.canon(0, 1);
        x.canon(0, 1);
        x.canon(0, 1);
        fraction(x, 5, 3, 9, 1, 1000000000000000L);
        // 1 less 999 to the fifth by 10 to the 15th
        fraction(x, 1, 3, 9, 1000000000000000L - 995009990004999L, 1000000000000000L);
        due("left(6, 0, 0)", x.left(6, 0, 0), SeatScene.BAD);
        due("left(0, 4, 0)", x.left(0, 4, 0), SeatScene.BAD);
        due("left(0, 0, 11)", x.left(0, 0, 11), SeatScene.BAD);
        due("left(-1, 0, 0)", x.left(-1, 0, 0), SeatScene.BAD);
        due("part(1)", x.part(1), 1000000000000000L);
        fraction(new SeatScene(), 0, 3, 9, 1, 1);
        fraction(new SeatScene(), 1, 3, 9, 0, 1);
    }

    private static void years() {
        Check.promise("promise 37, years");
        SeatScene x = pair();
        long before = x.digest();
        due("years(0, 0)", x.years(0, 0), 0);
        due("years(5, 1)", x.years(5, 1), 2);
        due("digest()", x.digest(), before);
        x.year(1);
        due("now", x.years(999999, 0), 2);
        due("years(-1, 0)", x.years(-1, 0), SeatScene.BAD);
        due("years(1000000, 0)", x.years(1000000, 0), SeatScene.BAD);
        due("years(0, 61)", x.years(0, 61), SeatScene.BAD);
        due("years(0, -1)", x.years(0, -1), SeatScene.BAD);
        // five canons, one seat: who comes to it hangs on X alone
        SeatScene y = new SeatScene();
        y.seat(5, 0, 40);
        for (int i = 0; i < 5; i++) {
            y.canon(0, 1);
        }
        y.sits(0, 0);
        long apart = 0;
        for (int seed = 0; seed < 60; seed++) {
            int want = doers(seed * 7919, 9);
            due("years(" + seed * 7919 + ", 9)", y.years(seed * 7919, 9), want);
            apart |= 1L << want;
        }
        for (int seed = 0; seed < 3000; seed++) {
            due("years(" + seed * 333 + ", 8)", y.years(seed * 333, 8), doers(seed * 333, 8));
        }
        SeatScene z = new SeatScene();
        z.seat(5, 0, 40);
        for (int canons = 1; canons <= 3; canons++) {
            z.canon(0, 1);
            z.sits(0, 0);
            for (int seed = 0; seed < 40; seed++) {
                due("of " + canons + " years(" + seed + ", 20)", z.years(seed, 20), doersOf(canons, seed, 20));
            }
        }
        Check.holds("the seeds tell more than one story", Long.bitCount(apart) > 1);
    }

    /** How many of five have sat on the hands of depth 40 (ten a year), the first at first. */
    private static int doers(long seed, int n) {
        return doersOf(5, seed, n);
    }

    private static int doersOf(int canons, long seed, int n) {
        java.math.BigInteger x = java.math.BigInteger.valueOf(seed);
        int sits = 0;
        int have = 0;
        for (int i = 0; i < n; i++) {
            x = x.multiply(java.math.BigInteger.valueOf(1103515245L)).add(java.math.BigInteger.valueOf(12345))
                    .mod(java.math.BigInteger.valueOf(2147483648L));
            int a = x.divide(java.math.BigInteger.valueOf(65536)).mod(java.math.BigInteger.valueOf(5)).intValue();
            int b = x.divide(java.math.BigInteger.valueOf(1048576)).mod(java.math.BigInteger.valueOf(5)).intValue();
            boolean both = a < canons && b < canons;
            sits = both && sits == a ? b : both && sits == b ? a : sits;
            have |= 1 << sits;
        }
        return Integer.bitCount(have);
    }

    private static void part() {
        Check.promise("promise 38, part");
        SeatScene x = pair();
        due("part(0)", x.part(0), 0);
        due("part(1)", x.part(1), 1);
        x.left(1, 1, 4);
        due("part(0)", x.part(0), 21);
        due("part(1)", x.part(1), 25);
        due("part(2)", x.part(2), SeatScene.BAD);
        due("part(-1)", x.part(-1), SeatScene.BAD);
        due("status(0)", x.status(0), 2);
    }

    private static void image() {
        Check.promise("promise 39, image");
        SeatScene x = pair();
        due("image(0)", x.image(0), 1);
        due("image(1)", x.image(1), 1);
        due("image(2)", x.image(2), SeatScene.BAD);
        due("image(-1)", x.image(-1), SeatScene.BAD);
        x.chapter();
        due("image(0) once more", x.image(0), 1);
        x.from(1);
        due("count(0)", x.count(0), 3);
        x.from(0);
        due("count(0)", x.count(0), 0);
    }

    private static void from() {
        Check.promise("promise 40, from");
        SeatScene x = pair();
        x.wish(1, 2, 3);
        x.note(1, 2, 3, 4, 5);
        x.mark(1, 2, 3, 4);
        x.year(4);
        x.image(0);
        long then = x.digest();
        x.year(2);
        x.forget(0);
        x.forget(1);
        x.forget(2);
        x.canon(5, 5);
        x.seat(0, 0, 0);
        x.wish(0, 0, 0);
        due("from(1)", x.from(1), SeatScene.NO);
        due("from(2)", x.from(2), SeatScene.BAD);
        due("from(-1)", x.from(-1), SeatScene.BAD);
        due("from(0)", x.from(0), 1);
        due("digest()", x.digest(), then);
        due("count(9)", x.count(9), 3);
        due("status(0)", x.status(0), 2);
        due("undo()", x.undo(), 0);
        due("count(9)", x.count(9), 2);
        due("from(0) again", x.from(0), 1);
        due("digest()", x.digest(), then);
        fromAnother();
        x.type(9);
        x.left(1, 1, 4);
        x.from(0);
        due("the text stays", x.count(10), 1);
        due("the fraction stays", x.part(0), 21);
    }

    /** An image comes back whole, whatever stood in its place: kinds, rows, and what may be undone. */
    private static void fromAnother() {
        SeatScene x = new SeatScene();
        for (int i = 0; i < 7; i++) {
            x.seat(5 - i % 6, 3 - i % 4, 40 - i);
        }
        for (int i = 0; i < 5; i++) {
            x.canon(5 - i, 9 - i);
        }
        for (int i = 0; i < 6; i++) {
            x.wish(i % 5, 1, i + 1);
            x.note(i, 2, 3, 4, i + 2);
            x.mark(i % 5, 6, 7, i + 3);
        }
        for (int i = 0; i < 4; i++) {
            x.sits(i, i + 2);
            x.year(2);
        }
        x.image(1);
        long[] past = new long[9];
        for (int i = 0; i < 9; i++) {
            past[i] = x.digest();
            x.undo();
        }
        x.chapter();
        for (int i = 0; i < 7; i++) {
            x.seat(0, 0, 1);
        }
        for (int i = 0; i < 5; i++) {
            x.canon(0, 1);
        }
        for (int i = 0; i < 6; i++) {
            x.wish(0, 0, 0);
            x.note(0, 0, 0, 0, 0);
            x.mark(0, 0, 0, 0);
        }
        for (int i = 0; i < 8; i++) {
            x.year(1);
        }
        x.from(1);
        due("heaviness", x.about(0, 4), 10);
        for (int i = 0; i < 9; i++) {
            due("digest() behind " + i + " undone", x.digest(), past[i]);
            x.undo();
        }
    }

    private static void status() {
        Check.promise("promise 41, status");
        SeatScene x = new SeatScene();
        x.year(0);
        x.of(0, 0);
        x.part(7);
        x.undo();
        for (int i = 0; i < 6; i++) {
            x.canon(0, 1);
        }
        due("status(0)", x.status(0), 3);
        due("status(1)", x.status(1), 1);
        due("status(2)", x.status(2), 1);
        due("status(3)", x.status(3), -1);
        due("status(-1)", x.status(-1), -1);
        due("status(0)", x.status(0), 5);
        x.read();
        x.first(0, 0);
        x.two(0, 1, 50);
        due("what is no refusal", x.status(0) + x.status(1) + x.status(2), 7);
    }

    private static void count() {
        Check.promise("promise 42, count");
        SeatScene x = pair();
        x.canon(0, 1);
        x.wish(0, 0, 0);
        x.note(0, 0, 0, 0, 0);
        x.note(0, 0, 0, 0, 0);
        x.mark(0, 0, 0, 0);
        x.mark(0, 0, 0, 0);
        x.mark(0, 0, 0, 0);
        x.swap(0, 2);
        x.year(2);
        tell(x, "abcd");
        // the third canon (1) wears seat 0 by nothing, the second seat 1 by 1 a year
        int[] want = {3, 3, 2, 6, 40 + 18 + 8, 20 + 18, 1, 2, 3, 2, 4};
        for (int i = 0; i <= 10; i++) {
            due("count(" + i + ")", x.count(i), want[i]);
        }
        due("count(11)", x.count(11), SeatScene.BAD);
        due("count(-1)", x.count(-1), SeatScene.BAD);
    }

    private static void digest() {
        Check.promise("promise 43, digest");
        SeatScene x = pair();
        x.canon(2, 5);
        x.sits(0, 0);
        x.wish(1, 2, 3);
        x.note(1, 2, 3, 4, 5);
        x.mark(1, 6, 7, 8);
        x.left(2, 1, 5);
        x.year(1);
        x.sits(1, SeatScene.NONE);
        x.type(9);
        x.year(0);
        long[] values = {3, 3, 1, 1, 37 + 19 + 8, 20, 1, 1, 1, 3, 1,
            0, 1, 37, 2, 2, 19, 0, 3, 8,
            0, 9, 0, 0, 10, 0, 0, 0, 3, -1, 0, 0, 10, 0, 2, 5, -1, 0, 0, 0, 0,
            1, 2, 3, 1, 2, 3, 4, 5, 1, 6, 7, 8, 1, 2};
        long h = 1499;
        for (long v : values) {
            h = 31 * h + v;
        }
        due("digest()", x.digest(), h);
        due("digest() changes nothing", x.digest(), h);
    }
}
