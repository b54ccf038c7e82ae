import java.math.BigInteger;
import java.util.ArrayList;
import java.util.Arrays;
import java.util.List;

/**
 * The document once more, written another way: kinds as classes over one another, every
 * look ahead on a deep copy, every search by trying all. ModelTests holds SeatScene against it.
 */
final class Model {
    static class SeatKind {
        int gives(int d, int y, int h) {
            return d / 4;
        }

        int worn(int w) {
            return w / 3;
        }
    }

    static class Oak extends SeatKind {
        @Override
        int worn(int w) {
            return super.worn(w) / 2;
        }
    }

    static class Mermaid extends SeatKind {
        @Override
        int gives(int d, int y, int h) {
            return 2 * super.gives(d, y, h);
        }
    }

    static class Loaf extends SeatKind {
        @Override
        int gives(int d, int y, int h) {
            int g = super.gives(d, y, h) - 2;
            return g < 0 ? 0 : g;
        }

        @Override
        int worn(int w) {
            return 1 + super.worn(w);
        }
    }

    static class Gilt extends Mermaid {
        @Override
        int gives(int d, int y, int h) {
            int g = super.gives(d, y, h);
            return (y & 1) == 0 ? g : g >> 1;
        }

        @Override
        int worn(int w) {
            return 1 + super.worn(w);
        }
    }

    static class Hands extends Oak {
        @Override
        int gives(int d, int y, int h) {
            return super.gives(d, y, h) + h / 5;
        }

        @Override
        int worn(int w) {
            return 0;
        }
    }

    static class CanonKind {
        int takes(int g, int h) {
            return g;
        }

        int heavy(int w) {
            return w;
        }
    }

    static class Dean extends CanonKind {
        @Override
        int takes(int g, int h) {
            return super.takes(g, h) / 2;
        }
    }

    static class Young extends CanonKind {
        @Override
        int takes(int g, int h) {
            int t = super.takes(g, h);
            return t >= 1 ? t + 1 : t;
        }

        @Override
        int heavy(int w) {
            int p = super.heavy(w);
            return p / 2 + p % 2;
        }
    }

    static class Deacon extends CanonKind {
        @Override
        int takes(int g, int h) {
            return 0;
        }

        @Override
        int heavy(int w) {
            return 2 * super.heavy(w);
        }
    }

    static class Prebend extends Young {
        @Override
        int takes(int g, int h) {
            return h >= 20 ? 0 : super.takes(g, h);
        }
    }

    static class Bishop extends Dean {
        @Override
        int takes(int g, int h) {
            return h == 0 ? g : super.takes(g, h);
        }

        @Override
        int heavy(int w) {
            return super.heavy(w) + 1;
        }
    }

    static final SeatKind[] SEAT_KINDS = {new SeatKind(), new Oak(), new Mermaid(), new Loaf(), new Gilt(), new Hands()};
    static final CanonKind[] CANON_KINDS =
            {new CanonKind(), new Dean(), new Young(), new Deacon(), new Prebend(), new Bishop()};

    static final class Seat {
        int kind;
        int trait;
        int depth;

        Seat(int kind, int trait, int depth) {
            this.kind = kind;
            this.trait = trait;
            this.depth = depth;
        }
    }

    static final class Canon {
        int kind;
        int weight;
        int seat = -1;
        int[] taken = new int[4];

        Canon(int kind, int weight) {
            this.kind = kind;
            this.weight = weight;
        }

        int does() {
            int top = Math.max(Math.max(taken[0], taken[1]), Math.max(taken[2], taken[3]));
            if (top < 10) {
                return -1;
            }
            for (int t = 0; ; t++) {
                if (taken[t] == top) {
                    return t;
                }
            }
        }
    }

    static final class State {
        List<Seat> seats = new ArrayList<>();
        List<Canon> canons = new ArrayList<>();
        int year = 0;
        List<int[]> wishes = new ArrayList<>();
        List<int[]> notes = new ArrayList<>();
        List<int[]> marks = new ArrayList<>();
        List<State> past = new ArrayList<>();

        State copy() {
            State o = new State();
            for (Seat s : seats) {
                o.seats.add(new Seat(s.kind, s.trait, s.depth));
            }
            for (Canon c : canons) {
                Canon d = new Canon(c.kind, c.weight);
                d.seat = c.seat;
                d.taken = c.taken.clone();
                o.canons.add(d);
            }
            o.year = year;
            o.wishes.addAll(wishes);
            o.notes.addAll(notes);
            o.marks.addAll(marks);
            o.past.addAll(past);
            return o;
        }

        int sitter(int s) {
            for (int c = 0; c < canons.size(); c++) {
                if (canons.get(c).seat == s) {
                    return c;
                }
            }
            return -1;
        }

        int would(int c, int s) {
            Canon who = canons.get(c);
            Seat on = seats.get(s);
            int h = who.taken[on.trait];
            return CANON_KINDS[who.kind].takes(SEAT_KINDS[on.kind].gives(on.depth, year, h), h);
        }

        void pass() {
            for (int c = 0; c < canons.size(); c++) {
                Canon who = canons.get(c);
                if (who.seat >= 0) {
                    int t = seats.get(who.seat).trait;
                    who.taken[t] = Math.min(99, who.taken[t] + would(c, who.seat));
                }
            }
            for (Canon who : canons) {
                if (who.seat >= 0) {
                    Seat on = seats.get(who.seat);
                    int wear = SEAT_KINDS[on.kind].worn(CANON_KINDS[who.kind].heavy(who.weight));
                    on.depth = Math.max(0, on.depth - wear);
                }
            }
            year++;
        }

        State behind(int n) {
            State o = copy();
            for (int i = 0; i < n; i++) {
                o.pass();
            }
            return o;
        }

        void push() {
            past.add(copy());
            if (past.size() > 8) {
                past.remove(0);
            }
        }

        int doers() {
            int many = 0;
            for (Canon c : canons) {
                many += c.does() >= 0 ? 1 : 0;
            }
            return many;
        }
    }

    State st = new State();
    State[] images = new State[2];
    String text = "";
    BigInteger above = BigInteger.ZERO;
    BigInteger below = BigInteger.ONE;
    int[] refused = new int[3];

    private int bad() {
        refused[0]++;
        return -2;
    }

    private int bad10() {
        refused[0]++;
        return -10;
    }

    private int no() {
        refused[1]++;
        return -3;
    }

    private int full() {
        refused[2]++;
        return -4;
    }

    private static boolean out(int v, int lo, int hi) {
        return v < lo || v > hi;
    }

    private boolean noSeat(int s) {
        return out(s, 0, st.seats.size() - 1);
    }

    private boolean noCanon(int c) {
        return out(c, 0, st.canons.size() - 1);
    }

    int chapter() {
        int n = st.canons.size();
        st = new State();
        return n;
    }

    int seat(int kind, int trait, int depth) {
        if (out(kind, 0, 5) || out(trait, 0, 3) || out(depth, 0, 40)) {
            return bad();
        }
        if (st.seats.size() == 7) {
            return full();
        }
        st.seats.add(new Seat(kind, trait, depth));
        st.past.clear();
        return st.seats.size() - 1;
    }

    int canon(int kind, int weight) {
        if (out(kind, 0, 5) || out(weight, 1, 9)) {
            return bad();
        }
        if (st.canons.size() == 5) {
            return full();
        }
        st.canons.add(new Canon(kind, weight));
        st.past.clear();
        return st.canons.size() - 1;
    }

    int type(int c) {
        if (out(c, 0, 127)) {
            return bad();
        }
        if (text.length() == 150) {
            return full();
        }
        text += (char) c;
        return text.length();
    }

    int clear() {
        int n = text.length();
        text = "";
        return n;
    }

    /** The text cut into tokens first, each {sort, place, number}; then the items. */
    int read() {
        List<String> words = new ArrayList<>();
        List<Integer> places = new ArrayList<>();
        int i = 0;
        while (i < text.length()) {
            if (text.charAt(i) == ' ') {
                i++;
                continue;
            }
            int j = i + 1;
            String sort = text.substring(i, j).matches("[a-z]") ? "[a-z]" : text.substring(i, j).matches("[0-9]") ? "[0-9]" : null;
            while (sort != null && j < text.length() && text.substring(j, j + 1).matches(sort)) {
                j++;
            }
            words.add(text.substring(i, j));
            places.add(i);
            i = j;
        }
        words.add("");
        places.add(text.length());
        State o = new State();
        int items = 0;
        int at = 0;
        while (at < words.size() - 1 || items == 0) {
            int end = item(o, words, at, items == 0);
            if (end < 0) {
                return -10 - places.get(-end - 1);
            }
            at = end;
            items++;
        }
        st = o;
        return items;
    }

    /** The place behind the item in the list of words; or -1 less the place of the faulty one. */
    private static int item(State o, List<String> words, int from, boolean opens) {
        String word = words.get(from);
        boolean chapter = word.equals("chapter");
        List<String> known = List.of("chapter", "seat", "canon", "sits", "years");
        if (chapter != opens || !known.contains(word) || word.equals("seat") && o.seats.size() == 7
                || word.equals("canon") && o.canons.size() == 5) {
            return -1 - from;
        }
        int[][] bounds = {{}, {0, 5, 0, 3, 0, 40}, {0, 5, 1, 9},
            {0, o.canons.size() - 1, 0, o.seats.size() - 1}, {1, 30}};
        int[] bound = bounds[known.indexOf(word)];
        int[] n = new int[3];
        int many = bound.length / 2;
        for (int k = 0; k < many; k++) {
            String w = words.get(from + 1 + k);
            if (!w.matches("[0-9]{1,2}") || out(Integer.parseInt(w), bound[2 * k], bound[2 * k + 1])) {
                return -1 - (from + 1 + k);
            }
            n[k] = Integer.parseInt(w);
            if (word.equals("sits") && k == 1 && o.sitter(n[1]) >= 0 && o.sitter(n[1]) != n[0]) {
                return -1 - (from + 1 + k);
            }
        }
        if (!words.get(from + 1 + many).equals(";")) {
            return -1 - (from + 1 + many);
        }
        switch (word) {
            case "seat" -> o.seats.add(new Seat(n[0], n[1], n[2]));
            case "canon" -> o.canons.add(new Canon(n[0], n[1]));
            case "sits" -> o.canons.get(n[0]).seat = n[1];
            case "years" -> {
                for (int k = 0; k < n[0] && o.year < 999; k++) {
                    o.pass();
                }
            }
            default -> { }
        }
        return from + 2 + many;
    }

    int sits(int c, int s) {
        if (noCanon(c) || s != -1 && noSeat(s)) {
            return bad10();
        }
        if (s >= 0 && st.sitter(s) >= 0 && st.sitter(s) != c) {
            return no();
        }
        st.push();
        int sat = st.canons.get(c).seat;
        st.canons.get(c).seat = s;
        return sat;
    }

    int swap(int a, int b) {
        if (noCanon(a) || noCanon(b) || a == b) {
            return bad();
        }
        st.push();
        change(st, a, b);
        return 1;
    }

    private static void change(State o, int a, int b) {
        int s = o.canons.get(a).seat;
        o.canons.get(a).seat = o.canons.get(b).seat;
        o.canons.get(b).seat = s;
    }

    int year(int n) {
        if (out(n, 1, 30)) {
            return bad();
        }
        st.push();
        while (n > 0 && st.year < 999) {
            st.pass();
            n--;
        }
        return st.doers();
    }

    int undo() {
        if (st.past.isEmpty()) {
            return no();
        }
        // a copy, for an image may hold the same one
        State old = st.past.remove(st.past.size() - 1).copy();
        st.seats = old.seats;
        st.canons = old.canons;
        st.year = old.year;
        return st.year;
    }

    int of(int s, int what) {
        if (noSeat(s) || out(what, 0, 3)) {
            return bad10();
        }
        Seat on = st.seats.get(s);
        return new int[] {on.kind, on.trait, on.depth, st.sitter(s)}[what];
    }

    int about(int c, int what) {
        if (noCanon(c) || out(what, 0, 4)) {
            return bad10();
        }
        Canon who = st.canons.get(c);
        return new int[] {who.kind, who.weight, who.seat, who.does(), CANON_KINDS[who.kind].heavy(who.weight)}[what];
    }

    int taken(int c, int t) {
        return noCanon(c) || out(t, 0, 3) ? bad() : st.canons.get(c).taken[t];
    }

    int takes(int c, int s) {
        return noCanon(c) || noSeat(s) ? bad() : st.would(c, s);
    }

    int then(int c, int t, int n) {
        return noCanon(c) || out(t, 0, 3) || out(n, 0, 60) ? bad() : st.behind(n).canons.get(c).taken[t];
    }

    int depth(int s, int n) {
        return noSeat(s) || out(n, 0, 60) ? bad() : st.behind(n).seats.get(s).depth;
    }

    int when(int c, int t, int x) {
        return noCanon(c) || out(t, 0, 3) || out(x, 1, 99) ? bad() : until(st, c, t, x);
    }

    private static int until(State o, int c, int t, int x) {
        for (int n = 0; n <= 60; n++) {
            if (o.behind(n).canons.get(c).taken[t] >= x) {
                return n;
            }
        }
        return -1;
    }

    int first(int t, int what) {
        if (out(t, 0, 3) || out(what, 0, 1)) {
            return bad();
        }
        for (int n = 0; n <= 60; n++) {
            State o = st.behind(n);
            for (int c = 0; c < o.canons.size(); c++) {
                if (o.canons.get(c).does() == t) {
                    return new int[] {c, n}[what];
                }
            }
        }
        return -1;
    }

    int blank(int s) {
        if (noSeat(s)) {
            return bad();
        }
        for (int n = 0; n <= 60; n++) {
            State o = st.behind(n);
            if (SEAT_KINDS[o.seats.get(s).kind].gives(o.seats.get(s).depth, o.year, 0) == 0) {
                return n;
            }
        }
        return -1;
    }

    int place(int c, int t, int x, int what) {
        if (noCanon(c) || out(t, 0, 3) || out(x, 1, 99) || out(what, 0, 1)) {
            return bad();
        }
        int[] best = {-1, -1};
        for (int s = st.seats.size() - 1; s >= 0; s--) {
            if (st.sitter(s) >= 0 && st.sitter(s) != c) {
                continue;
            }
            State o = st.copy();
            o.canons.get(c).seat = s;
            int n = until(o, c, t, x);
            if (n >= 0 && (best[1] < 0 || n <= best[1])) {
                best = new int[] {s, n};
            }
        }
        return best[what];
    }

    int wish(int c, int t, int x) {
        if (noCanon(c) || out(t, 0, 3) || out(x, 0, 99)) {
            return bad();
        }
        return put(st.wishes, c, t, x);
    }

    private int put(List<int[]> rows, int... row) {
        if (rows.size() == 6) {
            return full();
        }
        rows.add(row);
        return rows.size();
    }

    int seating(int n, int c) {
        if (out(n, 0, 12) || c != -1 && noCanon(c)) {
            return bad10();
        }
        int[] way = new int[st.canons.size()];
        int[] best = new int[st.canons.size()];
        int[] most = {-1};
        ways(n, 0, way, best, most);
        return c == -1 ? most[0] : best[c];
    }

    private void ways(int n, int c, int[] way, int[] best, int[] most) {
        if (c == way.length) {
            State o = st.copy();
            for (int i = 0; i < c; i++) {
                o.canons.get(i).seat = way[i];
            }
            for (int i = 0; i < n; i++) {
                o.pass();
            }
            int come = 0;
            for (int[] w : st.wishes) {
                come += o.canons.get(w[0]).taken[w[1]] >= w[2] ? 1 : 0;
            }
            if (come > most[0]) {
                most[0] = come;
                System.arraycopy(way, 0, best, 0, c);
            }
            return;
        }
        for (int s = -1; s < st.seats.size(); s++) {
            boolean free = true;
            for (int i = 0; i < c; i++) {
                free &= s == -1 || way[i] != s;
            }
            if (free) {
                way[c] = s;
                ways(n, c + 1, way, best, most);
            }
        }
    }

    int quarrels() {
        int many = 0;
        for (int i = 0; i + 1 < st.seats.size(); i++) {
            many += st.seats.get(i).trait == st.seats.get(i + 1).trait ? 1 : 0;
        }
        return many;
    }

    int row(int i) {
        if (noSeat(i)) {
            return bad();
        }
        List<int[]> all = new ArrayList<>();
        orders(new int[st.seats.size()], 0, all);
        for (int[] o : all) {
            boolean peace = true;
            for (int k = 0; k + 1 < o.length; k++) {
                peace &= st.seats.get(o[k]).trait != st.seats.get(o[k + 1]).trait;
            }
            if (peace) {
                return o[i];
            }
        }
        return -1;
    }

    private static void orders(int[] o, int i, List<int[]> all) {
        if (i == o.length) {
            all.add(o.clone());
            return;
        }
        for (int s = 0; s < o.length; s++) {
            boolean free = true;
            for (int k = 0; k < i; k++) {
                free &= o[k] != s;
            }
            if (free) {
                o[i] = s;
                orders(o, i + 1, all);
            }
        }
    }

    int blur(int s, int c, int n, int what) {
        if (noSeat(s) || noCanon(c) || out(n, 0, 20) || out(what, 0, 2)) {
            return bad();
        }
        List<Integer> fit = new ArrayList<>();
        for (int d = 0; d <= 40; d++) {
            State o = st.copy();
            for (Canon who : o.canons) {
                who.seat = -1;
            }
            o.canons.get(c).seat = s;
            o.seats.get(s).depth = d;
            if (o.behind(n).seats.get(s).depth == st.seats.get(s).depth) {
                fit.add(d);
            }
        }
        if (what == 0) {
            return fit.size();
        }
        return fit.isEmpty() ? -1 : what == 1 ? fit.get(0) : fit.get(fit.size() - 1);
    }

    int where(int c, int t, int x) {
        if (noCanon(c) || out(t, 0, 3) || out(x, 0, 60)) {
            return bad();
        }
        int bits = 0;
        for (int s = 0; s < st.seats.size(); s++) {
            bits += x == (st.seats.get(s).trait == t ? st.would(c, s) : 0) ? 1 << s : 0;
        }
        return bits;
    }

    int note(int s, int d, int y, int h, int x) {
        if (noSeat(s) || out(d, 0, 40) || out(y, 0, 99) || out(h, 0, 99) || out(x, 0, 40)) {
            return bad();
        }
        return put(st.notes, s, d, y, h, x);
    }

    int mark(int c, int g, int h, int x) {
        if (noCanon(c) || out(g, 0, 40) || out(h, 0, 99) || out(x, 0, 60)) {
            return bad();
        }
        return put(st.marks, c, g, h, x);
    }

    int forget(int what) {
        if (out(what, 0, 2)) {
            return bad();
        }
        List<int[]> rows = List.of(st.wishes, st.notes, st.marks).get(what);
        int n = rows.size();
        rows.clear();
        return n;
    }

    private List<SeatKind> fitSeats(int s) {
        List<SeatKind> fit = new ArrayList<>(Arrays.asList(SEAT_KINDS));
        for (int[] n : st.notes) {
            fit.removeIf(k -> n[0] == s && k.gives(n[1], n[2], n[3]) != n[4]);
        }
        return fit;
    }

    private List<CanonKind> fitCanons(int c) {
        List<CanonKind> fit = new ArrayList<>(Arrays.asList(CANON_KINDS));
        for (int[] m : st.marks) {
            fit.removeIf(k -> m[0] == c && k.takes(m[1], m[2]) != m[3]);
        }
        return fit;
    }

    int is(int s) {
        if (noSeat(s)) {
            return bad();
        }
        int bits = 0;
        for (SeatKind k : fitSeats(s)) {
            bits |= 1 << Arrays.asList(SEAT_KINDS).indexOf(k);
        }
        return bits;
    }

    private static int most(int[] answers) {
        int most = 0;
        for (int a : answers) {
            most = Math.max(most, (int) Arrays.stream(answers).filter(b -> a == b).count());
        }
        return most;
    }

    int look(int s) {
        if (noSeat(s)) {
            return bad();
        }
        List<SeatKind> fit = fitSeats(s);
        int best = -1;
        int least = 99;
        for (int p = 0; p <= 2001 && !fit.isEmpty(); p++) {
            int q = p;
            if (p % 100 <= 1) {
                int m = most(fit.stream().mapToInt(k -> k.gives(st.seats.get(s).depth, q % 100, q / 100)).toArray());
                best = m < least ? p : best;
                least = Math.min(m, least);
            }
        }
        return best;
    }

    int what(int c) {
        if (noCanon(c)) {
            return bad();
        }
        int bits = 0;
        for (CanonKind k : fitCanons(c)) {
            bits |= 1 << Arrays.asList(CANON_KINDS).indexOf(k);
        }
        return bits;
    }

    int tries(int c) {
        if (noCanon(c)) {
            return bad();
        }
        List<CanonKind> fit = fitCanons(c);
        int best = -1;
        int least = 99;
        for (int p = 0; p <= 920 && !fit.isEmpty(); p++) {
            int q = p;
            if (p % 100 <= 20) {
                int m = most(fit.stream().mapToInt(k -> k.takes(q / 100, q % 100)).toArray());
                best = m < least ? p : best;
                least = Math.min(m, least);
            }
        }
        return best;
    }

    int two(int a, int b, int k) {
        if (noCanon(a) || noCanon(b) || a == b || k < -1) {
            return bad10();
        }
        List<Integer> rest = new ArrayList<>();
        int n = st.seats.size();
        for (int i = 0; i < n; i++) {
            for (int j = 0; j < n; j++) {
                boolean still = true;
                for (int o = 0; o < n; o++) {
                    still &= gets(a, o, j) <= gets(a, i, j) && gets(b, o, i) <= gets(b, j, i);
                }
                if (still) {
                    rest.add(7 * i + j);
                }
            }
        }
        return k == -1 ? rest.size() : k < rest.size() ? rest.get(k) : -5;
    }

    private int gets(int c, int mine, int his) {
        return mine == his ? 0 : st.would(c, mine);
    }

    int left(int k, int m, int c) {
        if (out(k, 0, 5) || out(m, 0, 3) || out(c, 0, 10)) {
            return bad();
        }
        int n = st.canons.size();
        BigInteger all = BigInteger.TEN.pow(m);
        BigInteger lives = BigInteger.valueOf(10 - c).pow(m);
        BigInteger top = BigInteger.ZERO;
        for (int who = 0; who < 1 << n; who++) {
            if (Integer.bitCount(who) >= k) {
                top = top.add(lives.pow(Integer.bitCount(who)).multiply(all.subtract(lives).pow(n - Integer.bitCount(who))));
            }
        }
        BigInteger bottom = all.pow(n);
        BigInteger gcd = top.gcd(bottom);
        above = top.divide(gcd);
        below = bottom.divide(gcd);
        return 1;
    }

    int years(int seed, int n) {
        if (out(seed, 0, 999999) || out(n, 0, 60)) {
            return bad();
        }
        State o = st.copy();
        BigInteger x = BigInteger.valueOf(seed);
        for (int i = 0; i < n; i++) {
            x = x.multiply(BigInteger.valueOf(1103515245)).add(BigInteger.valueOf(12345)).mod(BigInteger.ONE.shiftLeft(31));
            int a = x.shiftRight(16).intValue() % 5;
            int b = x.shiftRight(20).intValue() % 5;
            if (a != b && a < o.canons.size() && b < o.canons.size()) {
                change(o, a, b);
            }
            o.pass();
        }
        return o.doers();
    }

    long part(int what) {
        return out(what, 0, 1) ? bad() : (what == 0 ? above : below).longValue();
    }

    int image(int i) {
        if (out(i, 0, 1)) {
            return bad();
        }
        images[i] = st.copy();
        return 1;
    }

    int from(int i) {
        if (out(i, 0, 1)) {
            return bad();
        }
        if (images[i] == null) {
            return no();
        }
        st = images[i].copy();
        return 1;
    }

    int status(int what) {
        if (out(what, 0, 2)) {
            refused[0]++;
            return -1;
        }
        return refused[what];
    }

    int count(int what) {
        if (out(what, 0, 10)) {
            return bad();
        }
        return counts()[what];
    }

    private int[] counts() {
        int sit = 0;
        int deep = 0;
        int had = 0;
        for (int c = 0; c < st.canons.size(); c++) {
            sit |= st.canons.get(c).seat >= 0 ? 1 << c : 0;
            had += Arrays.stream(st.canons.get(c).taken).sum();
        }
        for (Seat s : st.seats) {
            deep += s.depth;
        }
        return new int[] {st.seats.size(), st.canons.size(), st.year, sit, deep, had, st.wishes.size(),
            st.notes.size(), st.marks.size(), st.past.size(), text.length()};
    }

    long digest() {
        List<Long> all = new ArrayList<>();
        for (int v : counts()) {
            all.add((long) v);
        }
        for (Seat s : st.seats) {
            all.addAll(List.of((long) s.kind, (long) s.trait, (long) s.depth));
        }
        for (Canon c : st.canons) {
            all.addAll(List.of((long) c.kind, (long) c.weight, (long) c.seat));
            for (int t : c.taken) {
                all.add((long) t);
            }
        }
        for (List<int[]> rows : List.of(st.wishes, st.notes, st.marks)) {
            for (int[] row : rows) {
                for (int v : row) {
                    all.add((long) v);
                }
            }
        }
        all.add(above.longValue());
        all.add(below.longValue());
        long h = 1499;
        for (long v : all) {
            h = 31 * h + v;
        }
        return h;
    }
}
