import java.util.Arrays;

/** A chapter of canons on carved seats, as ../shared/DOC.md tells it. */
public final class SeatScene {
    public static final int NONE = -1, BAD = -2, NO = -3, FULL = -4;

    private static final int SEATS = 7;
    private static final int CANONS = 5;
    private static final int TRAITS = 4;
    private static final int KINDS = 6;
    private static final int DEEPEST = 40;
    private static final int HEAVIEST = 9;
    private static final int MOST_TAKEN = 99;
    private static final int LAST_YEAR = 999;
    private static final int AT_ONCE = 30;
    private static final int LOOKED_AHEAD = 60;
    private static final int ENOUGH_TO_DO = 10;
    private static final int ROWS = 6;
    private static final int IMAGES = 2;
    private static final int BAD_TOO = -10;
    private static final int NOT_SO_MANY = -5;

    private final Chapter now = new Chapter();
    private final Chapter spare = new Chapter();
    private final Chapter[] images = new Chapter[IMAGES];
    private final boolean[] kept = new boolean[IMAGES];
    private final Scene ahead = new Scene();
    private final Text text = new Text();
    private final Search search = new Search();
    private final int[] order = new int[SEATS];
    private final int[] alike = new int[KINDS];
    private final int[] getsA = new int[SEATS];
    private final int[] getsB = new int[SEATS];
    private final int[] refused = new int[3];
    private long above = 0;
    private long below = 1;

    public SeatScene() {
        for (int i = 0; i < IMAGES; i++) {
            images[i] = new Chapter();
        }
    }

    // ---- a chapter

    public int chapter() {
        int were = now.canons;
        now.empty();
        return were;
    }

    public int seat(int kind, int trait, int depth) {
        if (!isKind(kind) || !isTrait(trait) || !within(depth, 0, DEEPEST)) {
            return refuse(BAD);
        }
        if (now.seats >= SEATS) {
            return refuse(FULL);
        }
        return now.addSeat(kind, trait, depth);
    }

    public int canon(int kind, int weight) {
        if (!isKind(kind) || !within(weight, 1, HEAVIEST)) {
            return refuse(BAD);
        }
        if (now.canons >= CANONS) {
            return refuse(FULL);
        }
        return now.addCanon(kind, weight);
    }

    public int type(int c) {
        if (!within(c, 0, 127)) {
            return refuse(BAD);
        }
        if (text.length >= Text.MOST) {
            return refuse(FULL);
        }
        text.bytes[text.length] = (byte) c;
        text.length++;
        return text.length;
    }

    public int clear() {
        int were = text.length;
        text.length = 0;
        return were;
    }

    public int read() {
        // built apart, so that a FAULT leaves all as it was
        int items = text.tell(spare);
        if (items == NONE) {
            return -10 - text.start;
        }
        now.become(spare);
        return items;
    }

    // ---- years

    public int sits(int c, int s) {
        if (!isCanon(c) || !isSeatOrNone(s)) {
            return refuseAs(BAD_TOO);
        }
        if (now.scene.isHeldByOther(c, s)) {
            return refuse(NO);
        }
        now.keepPast();
        int sat = now.scene.seatOf[c];
        now.scene.seatOf[c] = s;
        return sat;
    }

    public int swap(int a, int b) {
        if (!isCanon(a) || !isCanon(b) || a == b) {
            return refuse(BAD);
        }
        now.keepPast();
        now.scene.exchange(a, b);
        return 1;
    }

    public int year(int n) {
        if (!within(n, 1, AT_ONCE)) {
            return refuse(BAD);
        }
        now.keepPast();
        now.passUpToLast(n);
        return now.scene.doers();
    }

    public int undo() {
        if (now.pastCount < 1) {
            return refuse(NO);
        }
        now.goBack();
        return now.scene.year;
    }

    public int of(int s, int what) {
        if (!isSeat(s) || !within(what, 0, 3)) {
            return refuseAs(BAD_TOO);
        }
        switch (what) {
            case 0:
                return now.seatKind[s];
            case 1:
                return now.seatTrait[s];
            case 2:
                return now.scene.depth[s];
            default:
                return now.scene.sitter(s);
        }
    }

    public int about(int c, int what) {
        if (!isCanon(c) || !within(what, 0, 4)) {
            return refuseAs(BAD_TOO);
        }
        switch (what) {
            case 0:
                return now.canonKind[c];
            case 1:
                return now.canonWeight[c];
            case 2:
                return now.scene.seatOf[c];
            case 3:
                return now.scene.doing(c);
            default:
                return now.heaviness[c];
        }
    }

    public int taken(int c, int t) {
        if (!isCanon(c) || !isTrait(t)) {
            return refuse(BAD);
        }
        return now.scene.takenOf(c, t);
    }

    // ---- what is taken

    public int takes(int c, int s) {
        if (!isCanon(c) || !isSeat(s)) {
            return refuse(BAD);
        }
        return now.wouldTake(now.scene, c, s);
    }

    public int then(int c, int t, int n) {
        if (!isCanon(c) || !isTrait(t) || !isAhead(n)) {
            return refuse(BAD);
        }
        lookAhead(n);
        return ahead.takenOf(c, t);
    }

    public int depth(int s, int n) {
        if (!isSeat(s) || !isAhead(n)) {
            return refuse(BAD);
        }
        lookAhead(n);
        return ahead.depth[s];
    }

    public int when(int c, int t, int x) {
        if (!isCanon(c) || !isTrait(t) || !within(x, 1, MOST_TAKEN)) {
            return refuse(BAD);
        }
        return yearsUntil(c, now.scene.seatOf[c], t, x);
    }

    public int first(int t, int what) {
        if (!isTrait(t) || !within(what, 0, 1)) {
            return refuse(BAD);
        }
        ahead.become(now.scene);
        for (int n = 0; n <= LOOKED_AHEAD; n++) {
            int c = ahead.firstDoing(t, now.canons);
            if (c != NONE) {
                return what == 0 ? c : n;
            }
            now.pass(ahead);
        }
        return NONE;
    }

    public int blank(int s) {
        if (!isSeat(s)) {
            return refuse(BAD);
        }
        ahead.become(now.scene);
        for (int n = 0; n <= LOOKED_AHEAD; n++) {
            if (given(now.seatKind[s], ahead.depth[s], ahead.year, 0) == 0) {
                return n;
            }
            now.pass(ahead);
        }
        return NONE;
    }

    public int place(int c, int t, int x, int what) {
        if (!isCanon(c) || !isTrait(t) || !within(x, 1, MOST_TAKEN) || !within(what, 0, 1)) {
            return refuse(BAD);
        }
        int best = NONE;
        int soonest = NONE;
        for (int s = 0; s < now.seats; s++) {
            int n = now.scene.isHeldByOther(c, s) ? NONE : yearsUntil(c, s, t, x);
            if (n != NONE && (soonest == NONE || n < soonest)) {
                best = s;
                soonest = n;
            }
        }
        return what == 0 ? best : soonest;
    }

    public int wish(int c, int t, int x) {
        if (!isCanon(c) || !isTrait(t) || !within(x, 0, MOST_TAKEN)) {
            return refuse(BAD);
        }
        return write(now.wishes, c, t, x, 0, 0);
    }

    public int seating(int n, int c) {
        if (!within(n, 0, 12) || (c != NONE && !isCanon(c))) {
            return refuseAs(BAD_TOO);
        }
        search.settle(now, ahead, n);
        return c == NONE ? search.most : search.best[c];
    }

    public int quarrels() {
        int pairs = 0;
        for (int s = 1; s < now.seats; s++) {
            if (now.seatTrait[s - 1] == now.seatTrait[s]) {
                pairs++;
            }
        }
        return pairs;
    }

    public int row(int i) {
        if (!isSeat(i)) {
            return refuse(BAD);
        }
        return fillOrder(now, order, 0, 0) ? order[i] : NONE;
    }

    public int blur(int s, int c, int n, int what) {
        if (!isSeat(s) || !isCanon(c) || !within(n, 0, 20) || !within(what, 0, 2)) {
            return refuse(BAD);
        }
        int wear = n * worn(now.seatKind[s], now.heaviness[c]);
        int many = 0;
        int least = NONE;
        int greatest = NONE;
        for (int d = 0; d <= DEEPEST; d++) {
            if (Math.max(d - wear, 0) == now.scene.depth[s]) {
                many++;
                least = least == NONE ? d : least;
                greatest = d;
            }
        }
        return what == 0 ? many : what == 1 ? least : greatest;
    }

    // ---- what they are

    public int where(int c, int t, int x) {
        if (!isCanon(c) || !isTrait(t) || !within(x, 0, 60)) {
            return refuse(BAD);
        }
        int bits = 0;
        for (int s = 0; s < now.seats; s++) {
            int would = now.seatTrait[s] == t ? now.wouldTake(now.scene, c, s) : 0;
            if (would == x) {
                bits |= 1 << s;
            }
        }
        return bits;
    }

    public int note(int s, int d, int y, int h, int x) {
        if (!isSeat(s) || !within(d, 0, DEEPEST) || !within(y, 0, 99)
                || !within(h, 0, MOST_TAKEN) || !within(x, 0, 40)) {
            return refuse(BAD);
        }
        return write(now.notes, s, d, y, h, x);
    }

    public int mark(int c, int g, int h, int x) {
        if (!isCanon(c) || !within(g, 0, 40) || !within(h, 0, MOST_TAKEN) || !within(x, 0, 60)) {
            return refuse(BAD);
        }
        return write(now.marks, c, g, h, x, 0);
    }

    public int forget(int what) {
        if (!within(what, 0, 2)) {
            return refuse(BAD);
        }
        Rows rows = what == 0 ? now.wishes : what == 1 ? now.notes : now.marks;
        int were = rows.many;
        rows.many = 0;
        return were;
    }

    public int is(int s) {
        return isSeat(s) ? seatKinds(s) : refuse(BAD);
    }

    public int look(int s) {
        if (!isSeat(s)) {
            return refuse(BAD);
        }
        int kinds = seatKinds(s);
        int best = NONE;
        int fewest = KINDS + 1;
        for (int h = 0; h <= 20 && kinds != 0; h++) {
            for (int y = 0; y <= 1; y++) {
                for (int k = 0; k < KINDS; k++) {
                    alike[k] = given(k, now.scene.depth[s], y, h);
                }
                int most = mostAlike(kinds);
                if (most < fewest) {
                    fewest = most;
                    best = 100 * h + y;
                }
            }
        }
        return best;
    }

    public int what(int c) {
        return isCanon(c) ? canonKinds(c) : refuse(BAD);
    }

    public int tries(int c) {
        if (!isCanon(c)) {
            return refuse(BAD);
        }
        int kinds = canonKinds(c);
        int best = NONE;
        int fewest = KINDS + 1;
        for (int g = 0; g <= 9 && kinds != 0; g++) {
            for (int h = 0; h <= 20; h++) {
                for (int k = 0; k < KINDS; k++) {
                    alike[k] = accepted(k, g, h);
                }
                int most = mostAlike(kinds);
                if (most < fewest) {
                    fewest = most;
                    best = 100 * g + h;
                }
            }
        }
        return best;
    }

    public int two(int a, int b, int k) {
        if (!isCanon(a) || !isCanon(b) || a == b || k < NONE) {
            return refuseAs(BAD_TOO);
        }
        for (int s = 0; s < now.seats; s++) {
            getsA[s] = now.wouldTake(now.scene, a, s);
            getsB[s] = now.wouldTake(now.scene, b, s);
        }
        int many = 0;
        for (int i = 0; i < now.seats; i++) {
            for (int j = 0; j < now.seats; j++) {
                if (isContent(getsA, i, j) && isContent(getsB, j, i)) {
                    if (many == k) {
                        return 7 * i + j;
                    }
                    many++;
                }
            }
        }
        return k == NONE ? many : NOT_SO_MANY;
    }

    public int left(int k, int m, int c) {
        if (!within(k, 0, 5) || !within(m, 0, 3) || !within(c, 0, 10)) {
            return refuse(BAD);
        }
        long all = power(10, m);
        long alive = power(10 - c, m);
        long ways = 0;
        for (int j = k; j <= now.canons; j++) {
            ways += choices(now.canons, j) * power(alive, j) * power(all - alive, now.canons - j);
        }
        setFraction(ways, power(all, now.canons));
        return 1;
    }

    public int years(int seed, int n) {
        if (!within(seed, 0, 999999) || !isAhead(n)) {
            return refuse(BAD);
        }
        ahead.become(now.scene);
        long x = seed;
        for (int i = 0; i < n; i++) {
            x = (x * 1103515245L + 12345L) % 2147483648L;
            int a = (int) (x / 65536 % 5);
            int b = (int) (x / 1048576 % 5);
            if (isCanon(a) && isCanon(b) && a != b) {
                ahead.exchange(a, b);
            }
            now.pass(ahead);
        }
        return ahead.doers();
    }

    // ---- what there is

    public long part(int what) {
        if (!within(what, 0, 1)) {
            return refuse(BAD);
        }
        return what == 0 ? above : below;
    }

    public int image(int i) {
        if (!within(i, 0, IMAGES - 1)) {
            return refuse(BAD);
        }
        images[i].become(now);
        kept[i] = true;
        return 1;
    }

    public int from(int i) {
        if (!within(i, 0, IMAGES - 1)) {
            return refuse(BAD);
        }
        if (!kept[i]) {
            return refuse(NO);
        }
        now.become(images[i]);
        return 1;
    }

    public int status(int what) {
        return within(what, 0, 2) ? refused[what] : refuseAs(-1);
    }

    public int count(int what) {
        return within(what, 0, 10) ? howMany(what) : refuse(BAD);
    }

    public long digest() {
        long h = 1499;
        for (int i = 0; i <= 10; i++) {
            h = 31 * h + howMany(i);
        }
        h = now.mix(h);
        return 31 * (31 * h + above) + below;
    }

    // ---- what is refused

    private int refuse(int answer) {
        refused[answer == BAD ? 0 : answer == NO ? 1 : 2]++;
        return answer;
    }

    /** A BAD call whose answer is another number. */
    private int refuseAs(int answer) {
        refused[0]++;
        return answer;
    }

    private static boolean within(int v, int least, int greatest) {
        return v >= least && v <= greatest;
    }

    private static boolean isKind(int kind) {
        return within(kind, 0, KINDS - 1);
    }

    private static boolean isTrait(int t) {
        return within(t, 0, TRAITS - 1);
    }

    private static boolean isAhead(int n) {
        return within(n, 0, LOOKED_AHEAD);
    }

    private boolean isSeat(int s) {
        return within(s, 0, now.seats - 1);
    }

    private boolean isSeatOrNone(int s) {
        return s == NONE || isSeat(s);
    }

    private boolean isCanon(int c) {
        return within(c, 0, now.canons - 1);
    }

    // ---- helpers of the face

    private void lookAhead(int n) {
        ahead.become(now.scene);
        for (int i = 0; i < n; i++) {
            now.pass(ahead);
        }
    }

    /** Behind how many years the canon, sitting on s from now on, has taken x; NONE. */
    private int yearsUntil(int c, int s, int t, int x) {
        ahead.become(now.scene);
        ahead.seatOf[c] = s;
        for (int n = 0; n <= LOOKED_AHEAD; n++) {
            if (ahead.takenOf(c, t) >= x) {
                return n;
            }
            now.passFor(ahead, c);
            ahead.year++;
        }
        return NONE;
    }

    private int write(Rows rows, int a, int b, int c, int d, int e) {
        if (rows.many >= ROWS) {
            return refuse(FULL);
        }
        rows.add(a, b, c, d, e);
        return rows.many;
    }

    private int seatKinds(int s) {
        Rows notes = now.notes;
        int bits = 0;
        for (int k = 0; k < KINDS; k++) {
            boolean so = true;
            for (int i = 0; i < notes.many; i++) {
                int x = given(k, notes.at(i, 1), notes.at(i, 2), notes.at(i, 3));
                so = so && (notes.at(i, 0) != s || x == notes.at(i, 4));
            }
            bits |= so ? 1 << k : 0;
        }
        return bits;
    }

    private int canonKinds(int c) {
        Rows marks = now.marks;
        int bits = 0;
        for (int k = 0; k < KINDS; k++) {
            boolean so = true;
            for (int i = 0; i < marks.many; i++) {
                int x = accepted(k, marks.at(i, 1), marks.at(i, 2));
                so = so && (marks.at(i, 0) != c || x == marks.at(i, 3));
            }
            bits |= so ? 1 << k : 0;
        }
        return bits;
    }

    /** The size of the greatest group of these kinds for which alike holds one number. */
    private int mostAlike(int kinds) {
        int most = 0;
        for (int k = 0; k < KINDS; k++) {
            int group = 0;
            for (int j = 0; j < KINDS; j++) {
                if ((kinds >> k & 1) == 1 && (kinds >> j & 1) == 1 && alike[j] == alike[k]) {
                    group++;
                }
            }
            most = Math.max(most, group);
        }
        return most;
    }

    /** Whether one on seat mine, the other being on seat his, would get no more elsewhere. */
    private boolean isContent(int[] gets, int mine, int his) {
        int have = mine == his ? 0 : gets[mine];
        for (int s = 0; s < now.seats; s++) {
            if (s != his && gets[s] > have) {
                return false;
            }
        }
        return true;
    }

    private void setFraction(long top, long bottom) {
        long a = top;
        long b = bottom;
        // 1000 rounds are far more than two longs can need
        for (int i = 0; i < 1000 && b != 0; i++) {
            long rest = a % b;
            a = b;
            b = rest;
        }
        if (a > 0) {
            above = top / a;
            below = bottom / a;
        }
    }

    private static long power(long base, int exponent) {
        long p = 1;
        for (int i = 0; i < exponent; i++) {
            p *= base;
        }
        return p;
    }

    private static long choices(int n, int k) {
        long ways = 1;
        for (int i = 0; i < k; i++) {
            ways = ways * (n - i) / (i + 1);
        }
        return ways;
    }

    private int howMany(int what) {
        switch (what) {
            case 0:
                return now.seats;
            case 1:
                return now.canons;
            case 2:
                return now.scene.year;
            case 3:
                return now.scene.whoSit();
            case 4:
                return sum(now.scene.depth);
            case 5:
                return sum(now.scene.taken);
            case 6:
                return now.wishes.many;
            case 7:
                return now.notes.many;
            case 8:
                return now.marks.many;
            case 9:
                return now.pastCount;
            default:
                return text.length;
        }
    }

    private static int sum(int[] row) {
        int all = 0;
        for (int v : row) {
            all += v;
        }
        return all;
    }

    /** Puts the first order without a quarrel in row, from place i on; false if there is none. */
    private static boolean fillOrder(Chapter ch, int[] row, int i, int used) {
        if (i >= ch.seats) {
            return true;
        }
        for (int s = 0; s < ch.seats; s++) {
            boolean fits = i == 0 || ch.seatTrait[row[i - 1]] != ch.seatTrait[s];
            if (fits && (used >> s & 1) == 0) {
                row[i] = s;
                if (fillOrder(ch, row, i + 1, used | 1 << s)) {
                    return true;
                }
            }
        }
        return false;
    }

    // ---- the kinds (PLAIN, kind 0 of both, is what each switch starts from)

    private static final int OAK = 1, MERMAID = 2, LOAF = 3, GILT = 4, HANDS = 5;
    private static final int DEAN = 1, YOUNG = 2, DEACON = 3, PREBEND = 4, BISHOP = 5;

    /** What a seat of this kind, deep d, gives in year y to one who has taken h of its trait. */
    private static int given(int kind, int d, int y, int h) {
        int plain = d / 4;
        int mermaid = 2 * plain;
        switch (kind) {
            case MERMAID:
                return mermaid;
            case LOAF:
                return Math.max(plain - 2, 0);
            case GILT:
                return y % 2 == 0 ? mermaid : mermaid / 2;
            case HANDS:
                return plain + h / 5;
            default:
                return plain;
        }
    }

    /** How much a seat of this kind is worn by one who is heavy by w. */
    private static int worn(int kind, int w) {
        int plain = w / 3;
        switch (kind) {
            case OAK:
                return plain / 2;
            case LOAF:
            case GILT:
                return plain + 1;
            case HANDS:
                return 0;
            default:
                return plain;
        }
    }

    /** What a canon of this kind takes of g that is given, having taken h of that trait. */
    private static int accepted(int kind, int g, int h) {
        int dean = g / 2;
        int young = g >= 1 ? g + 1 : g;
        switch (kind) {
            case DEAN:
                return dean;
            case YOUNG:
                return young;
            case DEACON:
                return 0;
            case PREBEND:
                return h >= 20 ? 0 : young;
            case BISHOP:
                return h == 0 ? g : dean;
            default:
                return g;
        }
    }

    /** How heavy a canon of this kind is by weight w. */
    private static int heavy(int kind, int w) {
        switch (kind) {
            case YOUNG:
            case PREBEND:
                return (w + 1) / 2;
            case DEACON:
                return 2 * w;
            case BISHOP:
                return w + 1;
            default:
                return w;
        }
    }

    /** What changes by sitting and by years: all that an undo brings back. */
    private static final class Scene {
        int year;
        final int[] seatOf = new int[CANONS];
        final int[] taken = new int[CANONS * TRAITS];
        final int[] depth = new int[SEATS];

        Scene() {
            Arrays.fill(seatOf, NONE);
        }

        void empty() {
            year = 0;
            Arrays.fill(seatOf, NONE);
            Arrays.fill(taken, 0);
            Arrays.fill(depth, 0);
        }

        void become(Scene other) {
            year = other.year;
            System.arraycopy(other.seatOf, 0, seatOf, 0, CANONS);
            System.arraycopy(other.taken, 0, taken, 0, CANONS * TRAITS);
            System.arraycopy(other.depth, 0, depth, 0, SEATS);
        }

        int takenOf(int c, int t) {
            return taken[c * TRAITS + t];
        }

        int sitter(int s) {
            for (int c = 0; c < CANONS; c++) {
                if (seatOf[c] == s) {
                    return c;
                }
            }
            return NONE;
        }

        boolean isHeldByOther(int c, int s) {
            int who = s == NONE ? NONE : sitter(s);
            return who != NONE && who != c;
        }

        void exchange(int a, int b) {
            int s = seatOf[a];
            seatOf[a] = seatOf[b];
            seatOf[b] = s;
        }

        int doing(int c) {
            int best = 0;
            for (int t = 1; t < TRAITS; t++) {
                if (takenOf(c, t) > takenOf(c, best)) {
                    best = t;
                }
            }
            return takenOf(c, best) >= ENOUGH_TO_DO ? best : NONE;
        }

        int doers() {
            int many = 0;
            for (int c = 0; c < CANONS; c++) {
                many += doing(c) == NONE ? 0 : 1;
            }
            return many;
        }

        int firstDoing(int t, int canons) {
            for (int c = 0; c < canons; c++) {
                if (doing(c) == t) {
                    return c;
                }
            }
            return NONE;
        }

        int whoSit() {
            int bits = 0;
            for (int c = 0; c < CANONS; c++) {
                bits |= seatOf[c] == NONE ? 0 : 1 << c;
            }
            return bits;
        }
    }

    /** Up to six rows of up to five numbers: wishes, notes or marks. */
    private static final class Rows {
        static final int WIDEST = 5;

        final int width;
        int many;
        final int[] cells = new int[ROWS * WIDEST];

        Rows(int width) {
            this.width = width;
        }

        void become(Rows other) {
            many = other.many;
            System.arraycopy(other.cells, 0, cells, 0, ROWS * WIDEST);
        }

        void add(int a, int b, int c, int d, int e) {
            int i = many * WIDEST;
            cells[i] = a;
            cells[i + 1] = b;
            cells[i + 2] = c;
            cells[i + 3] = d;
            cells[i + 4] = e;
            many++;
        }

        int at(int i, int column) {
            return cells[i * WIDEST + column];
        }

        long mix(long h) {
            long mixed = h;
            for (int i = 0; i < many; i++) {
                for (int j = 0; j < width; j++) {
                    mixed = 31 * mixed + at(i, j);
                }
            }
            return mixed;
        }
    }

    /** All that an image keeps. */
    private static final class Chapter {
        static final int MOST_UNDONE = 8;

        int seats;
        int canons;
        int pastCount;
        final int[] seatKind = new int[SEATS];
        final int[] seatTrait = new int[SEATS];
        final int[] canonKind = new int[CANONS];
        final int[] canonWeight = new int[CANONS];
        final int[] heaviness = new int[CANONS];
        final Scene scene = new Scene();
        final Scene[] past = new Scene[MOST_UNDONE];
        final Rows wishes = new Rows(3);
        final Rows notes = new Rows(5);
        final Rows marks = new Rows(4);

        Chapter() {
            for (int i = 0; i < MOST_UNDONE; i++) {
                past[i] = new Scene();
            }
        }

        void empty() {
            seats = 0;
            canons = 0;
            pastCount = 0;
            scene.empty();
            wishes.many = 0;
            notes.many = 0;
            marks.many = 0;
        }

        void become(Chapter other) {
            seats = other.seats;
            canons = other.canons;
            pastCount = other.pastCount;
            System.arraycopy(other.seatKind, 0, seatKind, 0, SEATS);
            System.arraycopy(other.seatTrait, 0, seatTrait, 0, SEATS);
            System.arraycopy(other.canonKind, 0, canonKind, 0, CANONS);
            System.arraycopy(other.canonWeight, 0, canonWeight, 0, CANONS);
            System.arraycopy(other.heaviness, 0, heaviness, 0, CANONS);
            scene.become(other.scene);
            for (int i = 0; i < pastCount; i++) {
                past[i].become(other.past[i]);
            }
            wishes.become(other.wishes);
            notes.become(other.notes);
            marks.become(other.marks);
        }

        int addSeat(int kind, int trait, int deep) {
            seatKind[seats] = kind;
            seatTrait[seats] = trait;
            scene.depth[seats] = deep;
            pastCount = 0;
            seats++;
            return seats - 1;
        }

        int addCanon(int kind, int weight) {
            canonKind[canons] = kind;
            canonWeight[canons] = weight;
            heaviness[canons] = heavy(kind, weight);
            pastCount = 0;
            canons++;
            return canons - 1;
        }

        void keepPast() {
            if (pastCount >= MOST_UNDONE) {
                Scene oldest = past[0];
                for (int i = 1; i < MOST_UNDONE; i++) {
                    past[i - 1] = past[i];
                }
                past[MOST_UNDONE - 1] = oldest;
                pastCount = MOST_UNDONE - 1;
            }
            past[pastCount].become(scene);
            pastCount++;
        }

        void goBack() {
            pastCount--;
            scene.become(past[pastCount]);
        }

        int wouldTake(Scene sc, int c, int s) {
            int h = sc.takenOf(c, seatTrait[s]);
            return accepted(canonKind[c], given(seatKind[s], sc.depth[s], sc.year, h), h);
        }

        /** A year for one canon and his seat; no other canon can touch either. */
        void passFor(Scene sc, int c) {
            int s = sc.seatOf[c];
            if (s == NONE) {
                return;
            }
            int i = c * TRAITS + seatTrait[s];
            sc.taken[i] = Math.min(sc.taken[i] + wouldTake(sc, c, s), MOST_TAKEN);
            sc.depth[s] = Math.max(sc.depth[s] - worn(seatKind[s], heaviness[c]), 0);
        }

        void pass(Scene sc) {
            for (int c = 0; c < canons; c++) {
                passFor(sc, c);
            }
            sc.year++;
        }

        void passUpToLast(int n) {
            for (int i = 0; i < n && scene.year < LAST_YEAR; i++) {
                pass(scene);
            }
        }

        long mix(long h) {
            long mixed = h;
            for (int s = 0; s < seats; s++) {
                mixed = 31 * mixed + seatKind[s];
                mixed = 31 * mixed + seatTrait[s];
                mixed = 31 * mixed + scene.depth[s];
            }
            for (int c = 0; c < canons; c++) {
                mixed = 31 * mixed + canonKind[c];
                mixed = 31 * mixed + canonWeight[c];
                mixed = 31 * mixed + scene.seatOf[c];
                for (int t = 0; t < TRAITS; t++) {
                    mixed = 31 * mixed + scene.takenOf(c, t);
                }
            }
            return marks.mix(notes.mix(wishes.mix(mixed)));
        }
    }

    /** The search for a seating by which most wishes come true. */
    private static final class Search {
        static final int OPTIONS = SEATS + 1;

        int seats;
        int canons;
        int most;
        final int[] best = new int[CANONS];
        private final int[] way = new int[CANONS];
        private final int[] gain = new int[CANONS * OPTIONS];
        private final int[] hope = new int[CANONS + 1];

        /** A canon's wishes hang on his own seat alone: each is weighed apart, then all are put together. */
        void settle(Chapter ch, Scene ahead, int n) {
            seats = ch.seats;
            canons = ch.canons;
            hope[canons] = 0;
            for (int c = canons - 1; c >= 0; c--) {
                int greatest = 0;
                for (int s = NONE; s < seats; s++) {
                    int come = wishesCome(ch, ahead, c, s, n);
                    gain[c * OPTIONS + s + 1] = come;
                    greatest = Math.max(greatest, come);
                }
                hope[c] = hope[c + 1] + greatest;
            }
            most = -1;
            tryFrom(this, 0, 0, 0);
        }

        private static int wishesCome(Chapter ch, Scene ahead, int c, int s, int n) {
            ahead.become(ch.scene);
            ahead.seatOf[c] = s;
            for (int i = 0; i < n; i++) {
                ch.passFor(ahead, c);
                ahead.year++;
            }
            int come = 0;
            for (int i = 0; i < ch.wishes.many; i++) {
                boolean his = ch.wishes.at(i, 0) == c;
                come += his && ahead.takenOf(c, ch.wishes.at(i, 1)) >= ch.wishes.at(i, 2) ? 1 : 0;
            }
            return come;
        }

        /** Goes through the ways in rising order, so that the first of the best ones stays. */
        private static void tryFrom(Search q, int c, int used, int come) {
            if (come + q.hope[c] <= q.most) {
                return;
            }
            if (c >= q.canons) {
                q.most = come;
                System.arraycopy(q.way, 0, q.best, 0, CANONS);
                return;
            }
            for (int s = NONE; s < q.seats; s++) {
                int bit = s == NONE ? 0 : 1 << s;
                if ((used & bit) == 0) {
                    q.way[c] = s;
                    tryFrom(q, c + 1, used | bit, come + q.gain[c * OPTIONS + s + 1]);
                }
            }
        }
    }

    /** The text of a chapter, and the reading of it token by token. */
    private static final class Text {
        static final int MOST = 150;
        static final int END = 0, WORD = 1, NUMBER = 2, STOP = 3, FAULT = 4;
        static final int CHAPTER = 0, SEAT = 1, CANON = 2, SITS = 3, YEARS = 4;

        final byte[] bytes = new byte[MOST];
        int length;
        /** The first byte of the token that was read last. */
        int start;
        private int end;
        private int sort;
        private int value;
        private int word;
        private final int[] number = new int[3];

        /** Builds the chapter that the text tells: how many items; NONE if start is a fault's place. */
        int tell(Chapter ch) {
            ch.empty();
            end = 0;
            for (int items = 0; items <= MOST; items++) {
                step();
                if (sort == END && items > 0) {
                    return items;
                }
                if (!takeItem(ch, items == 0)) {
                    return NONE;
                }
                switch (word) {
                    case SEAT:
                        ch.addSeat(number[0], number[1], number[2]);
                        break;
                    case CANON:
                        ch.addCanon(number[0], number[1]);
                        break;
                    case SITS:
                        ch.scene.seatOf[number[0]] = number[1];
                        break;
                    case YEARS:
                        ch.passUpToLast(number[0]);
                        break;
                    default:
                        break;
                }
            }
            return NONE;
        }

        /** Takes an item's tokens as far as they can stand; start is the last one taken. */
        private boolean takeItem(Chapter ch, boolean opens) {
            word = sort == WORD ? wordNumber() : NONE;
            if (opens != (word == CHAPTER)) {
                return false;
            }
            switch (word) {
                case CHAPTER:
                    return takeStop();
                case SEAT:
                    return ch.seats < SEATS && takeNumber(0, 0, KINDS - 1) && takeNumber(1, 0, TRAITS - 1)
                            && takeNumber(2, 0, DEEPEST) && takeStop();
                case CANON:
                    return ch.canons < CANONS && takeNumber(0, 0, KINDS - 1)
                            && takeNumber(1, 1, HEAVIEST) && takeStop();
                case SITS:
                    return takeNumber(0, 0, ch.canons - 1) && takeNumber(1, 0, ch.seats - 1)
                            && !ch.scene.isHeldByOther(number[0], number[1]) && takeStop();
                case YEARS:
                    return takeNumber(0, 1, AT_ONCE) && takeStop();
                default:
                    return false;
            }
        }

        private boolean takeNumber(int i, int least, int greatest) {
            step();
            number[i] = value;
            return sort == NUMBER && within(value, least, greatest);
        }

        private boolean takeStop() {
            step();
            return sort == STOP;
        }

        private void step() {
            start = end;
            while (start < length && bytes[start] == 32) {
                start++;
            }
            end = start;
            if (start >= length) {
                sort = END;
            } else if (isLetter(start)) {
                stepWord();
            } else if (isFigure(start)) {
                stepNumber();
            } else {
                sort = bytes[start] == ';' ? STOP : FAULT;
                end = start + 1;
            }
        }

        private void stepWord() {
            while (end < length && isLetter(end)) {
                end++;
            }
            sort = WORD;
        }

        private void stepNumber() {
            value = 0;
            while (end < length && isFigure(end)) {
                // a longer run is a fault: its number is of no use, and must not grow
                value = end - start < 2 ? value * 10 + bytes[end] - '0' : 0;
                end++;
            }
            sort = end - start <= 2 ? NUMBER : FAULT;
        }

        private boolean isLetter(int i) {
            return bytes[i] >= 'a' && bytes[i] <= 'z';
        }

        private boolean isFigure(int i) {
            return bytes[i] >= '0' && bytes[i] <= '9';
        }

        private int wordNumber() {
            return isWord("chapter") ? CHAPTER : isWord("seat") ? SEAT : isWord("canon") ? CANON
                    : isWord("sits") ? SITS : isWord("years") ? YEARS : NONE;
        }

        private boolean isWord(String word) {
            if (end - start != word.length()) {
                return false;
            }
            for (int i = 0; i < word.length(); i++) {
                if (bytes[start + i] != word.charAt(i)) {
                    return false;
                }
            }
            return true;
        }
    }
}
