/** The boundaries that the Terms name: the kinds, a year, what a canon does. */
final class TermEdges {
    private TermEdges() {
    }

    public static void main(String[] args) {
        seatsGive();
        seatsGiveNow();
        seatsAreWorn();
        canonsTake();
        canonsTakeNow();
        canonsAreHeavy();
        takenIsAtMost99();
        depthIsAtLeast0();
        takenAheadOfWorn();
        whoeverSitsTakes();
        does();
        Check.close("TermEdges");
    }

    /** Depth, year, taken; then what plain, oak, mermaid, loaf, gilt and hands give. */
    private static final int[][] GIVEN = {
        {0, 0, 0, 0, 0, 0, 0, 0, 0},
        {3, 0, 0, 0, 0, 0, 0, 0, 0},
        {3, 0, 4, 0, 0, 0, 0, 0, 0},
        {3, 0, 5, 0, 0, 0, 0, 0, 1},
        {4, 0, 0, 1, 1, 2, 0, 2, 1},
        {4, 1, 0, 1, 1, 2, 0, 1, 1},
        {7, 2, 9, 1, 1, 2, 0, 2, 2},
        {8, 3, 10, 2, 2, 4, 0, 2, 4},
        {11, 0, 0, 2, 2, 4, 0, 4, 2},
        {12, 0, 0, 3, 3, 6, 1, 6, 3},
        {12, 99, 99, 3, 3, 6, 1, 3, 22},
        {15, 98, 94, 3, 3, 6, 1, 6, 21},
        {36, 97, 0, 9, 9, 18, 7, 9, 9},
        {39, 0, 0, 9, 9, 18, 7, 18, 9},
        {40, 0, 95, 10, 10, 20, 8, 20, 29},
        {40, 1, 99, 10, 10, 20, 8, 10, 29}};

    private static void seatsGive() {
        Check.promise("terms, what a seat gives");
        for (int[] row : GIVEN) {
            for (int x = 0; x <= 40; x++) {
                int bits = 0;
                for (int kind = 0; kind < 6; kind++) {
                    bits |= row[3 + kind] == x ? 1 << kind : 0;
                }
                SeatScene scene = Edges.seatsAlone();
                scene.note(1, row[0], row[1], row[2], x);
                Check.due("kinds that give " + x + " of " + row[0] + " " + row[1] + " " + row[2], scene.is(1), bits);
            }
        }
    }

    /** The same to a plain canon who has taken nothing, in the year told. */
    private static void seatsGiveNow() {
        Check.promise("terms, what a seat gives now");
        for (int[] row : GIVEN) {
            for (int kind = 0; kind < 6 && row[2] == 0; kind++) {
                SeatScene x = new SeatScene();
                x.seat(kind, 3, row[0]);
                x.canon(0, 1);
                for (int y = 0; y < row[1]; y += 1) {
                    x.year(1);
                }
                Check.due("kind " + kind + " of " + row[0] + " in " + row[1], x.takes(0, 0), row[3 + kind]);
            }
        }
    }

    private static void seatsAreWorn() {
        Check.promise("terms, how much a seat is worn");
        // heavy by 1 to 9 as plain canons
        int[][] worn = {
            {0, 0, 1, 1, 1, 2, 2, 2, 3},
            {0, 0, 0, 0, 0, 1, 1, 1, 1},
            {0, 0, 1, 1, 1, 2, 2, 2, 3},
            {1, 1, 2, 2, 2, 3, 3, 3, 4},
            {1, 1, 2, 2, 2, 3, 3, 3, 4},
            {0, 0, 0, 0, 0, 0, 0, 0, 0}};
        for (int kind = 0; kind < 6; kind++) {
            for (int w = 1; w <= 9; w++) {
                wornBy(kind, 0, w, worn[kind][w - 1]);
            }
        }
        // deacons heavy by 10, 12, 18
        int[][] more = {{3, 4, 6}, {1, 2, 3}, {3, 4, 6}, {4, 5, 7}, {4, 5, 7}, {0, 0, 0}};
        for (int kind = 0; kind < 6; kind++) {
            wornBy(kind, 3, 5, more[kind][0]);
            wornBy(kind, 3, 6, more[kind][1]);
            wornBy(kind, 3, 9, more[kind][2]);
        }
    }

    private static void wornBy(int kind, int canon, int weight, int worn) {
        SeatScene x = new SeatScene();
        x.seat(kind, 0, 40);
        x.canon(canon, weight);
        x.sits(0, 0);
        String name = "kind " + kind + " by canon " + canon + " of " + weight;
        Check.due(name + " ahead", x.depth(0, 1), 40 - worn);
        Check.due(name + " once", x.blur(0, 0, 1, 2), worn == 0 ? 40 : SeatScene.NONE);
        x.year(1);
        Check.due(name, x.of(0, 2), 40 - worn);
        Check.due(name + " was 40", x.blur(0, 0, 1, 1), 40);
    }

    /** Given, taken; then what plain, dean, young, deacon, prebend and bishop take. */
    private static final int[][] ACCEPTED = {
        {0, 0, 0, 0, 0, 0, 0, 0},
        {0, 1, 0, 0, 0, 0, 0, 0},
        {0, 20, 0, 0, 0, 0, 0, 0},
        {1, 0, 1, 0, 2, 0, 2, 1},
        {1, 1, 1, 0, 2, 0, 2, 0},
        {2, 0, 2, 1, 3, 0, 3, 2},
        {2, 19, 2, 1, 3, 0, 3, 1},
        {2, 20, 2, 1, 3, 0, 0, 1},
        {3, 1, 3, 1, 4, 0, 4, 1},
        {3, 21, 3, 1, 4, 0, 0, 1},
        {39, 19, 39, 19, 40, 0, 40, 19},
        {40, 0, 40, 20, 41, 0, 41, 40},
        {40, 99, 40, 20, 41, 0, 0, 20}};

    private static void canonsTake() {
        Check.promise("terms, what a canon takes");
        for (int[] row : ACCEPTED) {
            for (int x = 0; x <= 60; x++) {
                int bits = 0;
                for (int kind = 0; kind < 6; kind++) {
                    bits |= row[2 + kind] == x ? 1 << kind : 0;
                }
                SeatScene scene = Edges.canonsAlone();
                scene.mark(1, row[0], row[1], x);
                Check.due("kinds that take " + x + " of " + row[0] + " " + row[1], scene.what(1), bits);
            }
        }
    }

    /** On plain seats that are not worn: given 4 g, one who has taken nothing, or what he took in a year. */
    private static void canonsTakeNow() {
        Check.promise("terms, what a canon takes now");
        int[][] first = {{0, 0, 0, 0, 0, 0}, {1, 0, 2, 0, 2, 1}, {2, 1, 3, 0, 3, 2}, {10, 5, 11, 0, 11, 10}};
        int[] given = {0, 1, 2, 10};
        for (int i = 0; i < given.length; i++) {
            for (int kind = 0; kind < 6; kind++) {
                Check.due("kind " + kind + " of " + given[i], fresh(kind, 4 * given[i]).takes(0, 0), first[i][kind]);
            }
        }
        // behind a year: of 10 again
        int[] second = {10, 5, 11, 0, 11, 5};
        for (int kind = 0; kind < 6; kind++) {
            SeatScene x = fresh(kind, 40);
            x.year(1);
            Check.due("kind " + kind + " again", x.takes(0, 0), second[kind]);
        }
        SeatScene x = fresh(4, 36);
        x.seat(0, 0, 32);
        x.year(1);
        x.sits(0, 1);
        x.year(1);
        Check.due("a prebend has taken 10 and 9", x.taken(0, 0), 19);
        Check.due("he takes yet", x.takes(0, 1), 9);
        x = fresh(4, 36);
        x.year(2);
        Check.due("a prebend has taken 20", x.taken(0, 0), 20);
        Check.due("he takes no more", x.takes(0, 0), 0);
    }

    private static SeatScene fresh(int kind, int depth) {
        SeatScene x = new SeatScene();
        x.seat(0, 0, depth);
        x.canon(kind, 1);
        x.sits(0, 0);
        return x;
    }

    private static void canonsAreHeavy() {
        Check.promise("terms, how heavy a canon is");
        int[][] heavy = {
            {1, 2, 3, 4, 5, 6, 7, 8, 9},
            {1, 2, 3, 4, 5, 6, 7, 8, 9},
            {1, 1, 2, 2, 3, 3, 4, 4, 5},
            {2, 4, 6, 8, 10, 12, 14, 16, 18},
            {1, 1, 2, 2, 3, 3, 4, 4, 5},
            {2, 3, 4, 5, 6, 7, 8, 9, 10}};
        for (int kind = 0; kind < 6; kind++) {
            for (int w = 1; w <= 9; w++) {
                SeatScene x = new SeatScene();
                x.canon(kind, w);
                Check.due("kind " + kind + " of " + w, x.about(0, 4), heavy[kind][w - 1]);
            }
        }
    }

    /** One who takes 20 a year of trait 2 from a mermaid, or 1, 2, .. from plain seats, none of them worn. */
    private static SeatScene taker() {
        SeatScene x = new SeatScene();
        x.seat(2, 2, 40);
        x.seat(0, 2, 4);
        x.seat(0, 2, 8);
        x.seat(0, 2, 36);
        x.seat(0, 1, 40);
        x.canon(0, 1);
        x.sits(0, 0);
        return x;
    }

    private static void takenIsAtMost99() {
        Check.promise("terms, 99 at most");
        SeatScene x = taker();
        x.year(4);
        Check.due("taken 80", x.taken(0, 2), 80);
        x.sits(0, 3);
        x.year(2);
        Check.due("98 is not cut", x.taken(0, 2), 98);
        x.sits(0, 1);
        x.year(1);
        Check.due("just 99", x.taken(0, 2), 99);
        Check.due("he would take yet", x.takes(0, 1), 1);
        x.year(1);
        Check.due("99 and 1", x.taken(0, 2), 99);
        x.undo();
        x.undo();
        x.sits(0, 2);
        x.year(1);
        Check.due("98 and 2", x.taken(0, 2), 99);
        x.sits(0, 0);
        x.year(30);
        Check.due("99 and 600", x.taken(0, 2), 99);
        x.sits(0, 4);
        x.year(3);
        Check.due("of another trait apart", x.taken(0, 1), 30);
        Check.due("99 stay", x.taken(0, 2), 99);
        Check.due("together", x.count(5), 129);
        x.undo();
        x.sits(0, 0);
        Check.due("ahead", x.then(0, 2, 60), 99);
    }

    private static void depthIsAtLeast0() {
        Check.promise("terms, depth 0 at least");
        int[] deep = {0, 1, 2, 3, 4, 40};
        int[] once = {0, 0, 0, 0, 1, 37};
        int[] twice = {0, 0, 0, 0, 0, 34};
        for (int i = 0; i < deep.length; i++) {
            SeatScene x = new SeatScene();
            x.seat(0, 0, deep[i]);
            x.canon(0, 9);
            x.sits(0, 0);
            Check.due(deep[i] + " worn ahead by 3", x.depth(0, 1), once[i]);
            x.year(1);
            Check.due(deep[i] + " worn by 3", x.of(0, 2), once[i]);
            Check.due("all together", x.count(4), once[i]);
            x.year(1);
            Check.due(deep[i] + " worn twice", x.of(0, 2), twice[i]);
        }
    }

    /** In one year he takes of the depth as it was; behind it the seat is worn. */
    private static void takenAheadOfWorn() {
        Check.promise("terms, taken ahead of worn");
        SeatScene x = new SeatScene();
        x.seat(0, 0, 4);
        x.seat(4, 1, 40);
        x.canon(0, 9);
        x.canon(0, 1);
        x.sits(0, 0);
        x.sits(1, 1);
        x.year(1);
        Check.due("of 4", x.taken(0, 0), 1);
        Check.due("4 less 3", x.of(0, 2), 1);
        Check.due("of a gilt 40 in year 0", x.taken(1, 1), 20);
        x.year(1);
        Check.due("of 1", x.taken(0, 0), 1);
        Check.due("of a gilt 39 in year 1", x.taken(1, 1), 29);
        x.year(1);
        Check.due("of a gilt 38 in year 2", x.taken(1, 1), 47);
    }

    private static void whoeverSitsTakes() {
        Check.promise("terms, each who sits takes");
        SeatScene x = new SeatScene();
        for (int i = 0; i < 7; i++) {
            x.seat(0, i % 4, 40);
        }
        for (int i = 0; i < 5; i++) {
            x.canon(0, 3);
            x.sits(i, 6 - i);
        }
        x.sits(2, SeatScene.NONE);
        x.year(1);
        for (int s = 0; s < 7; s++) {
            boolean free = s < 2 || s == 4;
            Check.due("depth of " + s, x.of(s, 2), free ? 40 : 39);
        }
        for (int c = 0; c < 5; c++) {
            for (int t = 0; t < 4; t++) {
                int due = c != 2 && t == (6 - c) % 4 ? 10 : 0;
                Check.due("taken(" + c + ", " + t + ")", x.taken(c, t), due);
            }
        }
    }

    /** A canon on plain seats of all four traits, who has taken just so much of each. */
    private static SeatScene has(int... much) {
        SeatScene x = new SeatScene();
        for (int t = 0; t < 4; t++) {
            x.seat(0, t, 4);
        }
        x.canon(0, 1);
        for (int t = 0; t < 4; t++) {
            x.sits(0, t);
            for (int i = 0; i < much[t]; i++) {
                x.year(1);
            }
        }
        return x;
    }

    private static void does() {
        Check.promise("terms, what a canon does");
        Check.due("nothing taken", has(0, 0, 0, 0).about(0, 3), SeatScene.NONE);
        Check.due("9 of each", has(9, 9, 9, 9).about(0, 3), SeatScene.NONE);
        for (int t = 0; t < 4; t++) {
            int[] much = new int[4];
            much[t] = 9;
            Check.due("9 of " + t, has(much).about(0, 3), SeatScene.NONE);
            much[t] = 10;
            Check.due("10 of " + t, has(much).about(0, 3), t);
        }
        Check.due("10 of each", has(10, 10, 10, 10).about(0, 3), 0);
        Check.due("like ones, 1 and 3", has(9, 12, 11, 12).about(0, 3), 1);
        Check.due("like ones, 2 and 3", has(0, 11, 12, 12).about(0, 3), 2);
        Check.due("the last by one", has(12, 12, 12, 13).about(0, 3), 3);
        Check.due("the second by one", has(12, 13, 12, 12).about(0, 3), 1);
        Check.due("the first by one", has(11, 10, 10, 10).about(0, 3), 0);
    }
}
