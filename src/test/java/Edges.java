import java.util.ArrayList;
import java.util.List;
import java.util.function.Supplier;

/** What the tests of boundaries share: chapters to stand on, and calls held against them. */
final class Edges {
    static final int AS_BAD = 0, AS_NO = 1, AS_FULL = 2;

    interface Call {
        long on(SeatScene x);
    }

    interface Numbered {
        long on(SeatScene x, int v);
    }

    private Edges() {
    }

    static SeatScene empty() {
        return new SeatScene();
    }

    static SeatScene seatsAlone() {
        SeatScene x = new SeatScene();
        x.seat(0, 1, 30);
        x.seat(2, 1, 20);
        return x;
    }

    static SeatScene canonsAlone() {
        SeatScene x = new SeatScene();
        x.canon(0, 9);
        x.canon(5, 4);
        return x;
    }

    /**
     * Three seats, two canons, one of each other thing, three that may be undone, image 0. In year 1 the first
     * canon (plain, heavy by 9) sits on seat 0 (plain, preaching, deep 37) and has taken 10; the second (young,
     * heavy by 2) on seat 1 (mermaid, the sea, deep 20) and has taken 11; seat 2 (hands, preaching, deep 8) is free.
     */
    static SeatScene roomy() {
        SeatScene x = new SeatScene();
        x.seat(0, 0, 40);
        x.seat(2, 2, 20);
        x.seat(5, 0, 8);
        x.canon(0, 9);
        x.canon(2, 3);
        x.sits(0, 0);
        x.sits(1, 1);
        x.year(1);
        x.wish(0, 0, 20);
        x.note(0, 40, 0, 0, 10);
        x.mark(1, 10, 0, 11);
        x.left(1, 1, 5);
        tell(x, "chapter;seat 1 2 33;");
        x.image(0);
        return x;
    }

    /** Seven seats, five canons on the first five, six of each row, 150 bytes, eight that may be undone, both images. */
    static SeatScene full() {
        SeatScene x = new SeatScene();
        for (int i = 0; i < 7; i++) {
            x.seat(i % 6, i % 4, 40 - i);
        }
        for (int i = 0; i < 5; i++) {
            x.canon(i, 5 + i);
        }
        for (int i = 0; i < 6; i++) {
            x.wish(i % 5, i % 4, 5 * i);
            x.note(i, 20, i, i, 5);
            x.mark(i % 5, 9, i, 9);
        }
        for (int i = 0; i < 5; i++) {
            x.sits(i, i);
        }
        x.year(1);
        x.year(2);
        x.year(3);
        x.image(1);
        x.year(4);
        x.left(2, 2, 3);
        tell(x, FULL_TEXT);
        x.image(0);
        return x;
    }

    /** 150 bytes, the last of which is needed: seven seats, five canons, a sitting, 30 years. */
    static final String FULL_TEXT = "chapter;" + "seat5 3 40;".repeat(7) + "canon5 9;".repeat(5)
            + "    sits4 6;years30;";

    static void tell(SeatScene x, String text) {
        x.clear();
        for (int i = 0; i < text.length(); i++) {
            x.type(text.charAt(i));
        }
    }

    /** The call answers so and is not counted as refused. */
    static void answers(String name, Supplier<SeatScene> made, Call call, long answer) {
        SeatScene x = made.get();
        Check.due(name, call.on(x), answer);
        statusIs(name, x, NONE_REFUSED);
    }

    /** The call answers so, is not counted as refused, and changes nothing. */
    static void asks(String name, Supplier<SeatScene> made, Call call, long answer) {
        SeatScene x = made.get();
        Check.due(name, call.on(x), answer);
        statusIs(name, x, NONE_REFUSED);
        Check.holds("nothing is changed by " + name, portrait(x).equals(portrait(made.get())));
    }

    /** The call answers so, is counted once in its place of STATUS and in no other, and changes nothing else. */
    static void refused(String name, Supplier<SeatScene> made, Call call, long answer, int place) {
        SeatScene x = made.get();
        Check.due(name, call.on(x), answer);
        statusIs(name, x, place);
        Check.holds("nothing else is changed by " + name, portrait(x).equals(portrait(made.get())));
    }

    /** The call, whatever it answers, changes nothing and is not counted as refused. */
    static void leavesAll(String name, Supplier<SeatScene> made, Call call) {
        SeatScene x = made.get();
        call.on(x);
        statusIs(name, x, NONE_REFUSED);
        Check.holds("nothing is changed by " + name, portrait(x).equals(portrait(made.get())));
    }

    static void bad(String name, Supplier<SeatScene> made, Call call) {
        refused(name, made, call, SeatScene.BAD, AS_BAD);
    }

    /** A number of a call that changes something: least and greatest as they answer, what lies beyond is BAD. */
    static void doBounds(String name, Numbered call, int least, long asLeast, int greatest, long asGreatest, long asBad) {
        answers(name + " " + least, Edges::roomy, x -> call.on(x, least), asLeast);
        answers(name + " " + greatest, Edges::roomy, x -> call.on(x, greatest), asGreatest);
        beyond(name, call, least, greatest, asBad);
    }

    /** A number of a call that changes nothing: least and greatest as they answer, what lies beyond is BAD. */
    static void askBounds(String name, Numbered call, int least, long asLeast, int greatest, long asGreatest, long asBad) {
        asks(name + " " + least, Edges::roomy, x -> call.on(x, least), asLeast);
        asks(name + " " + greatest, Edges::roomy, x -> call.on(x, greatest), asGreatest);
        beyond(name, call, least, greatest, asBad);
    }

    private static void beyond(String name, Numbered call, int least, int greatest, long asBad) {
        for (int v : new int[] {least - 1, greatest + 1, Integer.MIN_VALUE, Integer.MAX_VALUE}) {
            refused(name + " " + v, Edges::roomy, x -> call.on(x, v), asBad, AS_BAD);
        }
    }

    /** A number of a SEAT: none is there but the three of roomy, the seven of full. */
    static void seatBounds(String name, Numbered call, long asBad) {
        noSuch(name + " of none at all", Edges::empty, call, 0, asBad);
        noSuch(name + " of canons alone", Edges::canonsAlone, call, 0, asBad);
        noSuch(name + " of two", Edges::seatsAlone, call, 2, asBad);
        noSuch(name + " of three", Edges::roomy, call, 3, asBad);
        noSuch(name + " of seven", Edges::full, call, 7, asBad);
        SeatScene x = full();
        Check.holds(name + " the seventh", call.on(x, 6) != asBad);
        statusIs(name + " the seventh", x, NONE_REFUSED);
    }

    /** A number of a CANON: none is there but the two of roomy, the five of full. */
    static void canonBounds(String name, Numbered call, long asBad) {
        noSuch(name + " of none at all", Edges::empty, call, 0, asBad);
        noSuch(name + " of seats alone", Edges::seatsAlone, call, 0, asBad);
        noSuch(name + " of two", Edges::roomy, call, 2, asBad);
        noSuch(name + " of five", Edges::full, call, 5, asBad);
        SeatScene x = full();
        Check.holds(name + " the fifth", call.on(x, 4) != asBad);
        statusIs(name + " the fifth", x, NONE_REFUSED);
    }

    /** Beyond the greatest, and (NONE being told of for each call apart) far below the least. */
    private static void noSuch(String name, Supplier<SeatScene> made, Numbered call, int first, long asBad) {
        for (int v : new int[] {first, first + 1, Integer.MAX_VALUE, -2, Integer.MIN_VALUE}) {
            refused(name + " " + v, made, x -> call.on(x, v), asBad, AS_BAD);
        }
    }

    private static final int NONE_REFUSED = -1;

    private static void statusIs(String name, SeatScene x, int place) {
        for (int i = 0; i < 3; i++) {
            Check.due("status(" + i + ") behind " + name, x.status(i), i == place ? 1 : 0);
        }
    }

    /** All that a caller can see of an object but STATUS; the object is used up by it. */
    static List<Long> portrait(SeatScene x) {
        List<Long> seen = new ArrayList<>();
        addPast(seen, x);
        seen.add((long) x.read());
        seen.add(x.digest());
        for (int i = 0; i < 2; i++) {
            seen.add((long) x.from(i));
            addPast(seen, x);
        }
        return seen;
    }

    private static void addPast(List<Long> seen, SeatScene x) {
        seen.add(x.digest());
        for (int i = 0; i < 10; i++) {
            seen.add((long) x.undo());
            seen.add(x.digest());
        }
    }
}
