import java.lang.reflect.InvocationTargetException;
import java.lang.reflect.Method;
import java.util.ArrayList;
import java.util.List;
import java.util.Map;
import java.util.Random;

/** Random runs of calls on SeatScene and on Model: each answer, digest and status must be the same. */
final class ModelTests {
    private static final int RUNS = 1200;
    private static final int CALLS = 110;
    private static final int FIRST_WRONG = 20;

    /** The bounds of a method's numbers, as the document tells them, low and high by turns. */
    private static final Map<String, int[]> BOUNDS = Map.ofEntries(
            Map.entry("seat", new int[] {0, 5, 0, 3, 0, 40}), Map.entry("canon", new int[] {0, 5, 1, 9}),
            Map.entry("type", new int[] {0, 127}), Map.entry("sits", new int[] {0, 4, -1, 6}),
            Map.entry("swap", new int[] {0, 4, 0, 4}), Map.entry("year", new int[] {1, 30}),
            Map.entry("of", new int[] {0, 6, 0, 3}), Map.entry("about", new int[] {0, 4, 0, 4}),
            Map.entry("taken", new int[] {0, 4, 0, 3}), Map.entry("takes", new int[] {0, 4, 0, 6}),
            Map.entry("then", new int[] {0, 4, 0, 3, 0, 60}), Map.entry("depth", new int[] {0, 6, 0, 60}),
            Map.entry("when", new int[] {0, 4, 0, 3, 1, 99}), Map.entry("first", new int[] {0, 3, 0, 1}),
            Map.entry("blank", new int[] {0, 6}), Map.entry("place", new int[] {0, 4, 0, 3, 1, 99, 0, 1}),
            Map.entry("wish", new int[] {0, 4, 0, 3, 0, 99}), Map.entry("seating", new int[] {0, 12, -1, 4}),
            Map.entry("row", new int[] {0, 6}), Map.entry("blur", new int[] {0, 6, 0, 4, 0, 20, 0, 2}),
            Map.entry("where", new int[] {0, 4, 0, 3, 0, 60}),
            Map.entry("note", new int[] {0, 6, 0, 40, 0, 99, 0, 99, 0, 40}),
            Map.entry("mark", new int[] {0, 4, 0, 40, 0, 99, 0, 60}), Map.entry("forget", new int[] {0, 2}),
            Map.entry("is", new int[] {0, 6}), Map.entry("look", new int[] {0, 6}),
            Map.entry("what", new int[] {0, 4}), Map.entry("tries", new int[] {0, 4}),
            Map.entry("two", new int[] {0, 4, 0, 4, -1, 9}), Map.entry("left", new int[] {0, 5, 0, 3, 0, 10}),
            Map.entry("years", new int[] {0, 999999, 0, 60}), Map.entry("part", new int[] {0, 1}),
            Map.entry("image", new int[] {0, 1}), Map.entry("from", new int[] {0, 1}),
            Map.entry("status", new int[] {0, 2}), Map.entry("count", new int[] {0, 10}));

    private final Random random;
    private final SeatScene scene = new SeatScene();
    private final Model model = new Model();
    private final List<String> log = new ArrayList<>();
    private boolean same = true;

    private ModelTests(long seed) {
        random = new Random(seed);
    }

    public static void main(String[] args) throws Exception {
        int runs = args.length > 0 ? Integer.parseInt(args[0]) : RUNS;
        for (int run = 0; run < runs && Check.wrong < FIRST_WRONG; run++) {
            Check.promise("run " + run);
            new ModelTests(run).run(run);
        }
        Check.close("ModelTests");
    }

    private void run(int number) throws Exception {
        List<Method> methods = new ArrayList<>();
        for (Method m : SeatScene.class.getDeclaredMethods()) {
            if (java.lang.reflect.Modifier.isPublic(m.getModifiers())) {
                methods.add(m);
            }
        }
        methods.sort((a, b) -> a.getName().compareTo(b.getName()));
        if (number % 4 != 3) {
            furnish();
        }
        int often = number % 3;
        for (int i = 0; i < CALLS && same; i++) {
            int pick = random.nextInt(40);
            if (pick == 0) {
                tellText();
            } else if (pick <= 3 * often) {
                call("sits", numbers("sits"));
                call("year", new int[] {1 + random.nextInt(4)});
            } else {
                Method m = methods.get(random.nextInt(methods.size()));
                boolean costly = m.getName().equals("chapter") || m.getName().equals("seating");
                if (!costly || random.nextInt(8) == 0) {
                    call(m.getName(), numbers(m.getName()));
                }
            }
        }
    }

    private void furnish() throws Exception {
        int seats = random.nextInt(8);
        int canons = random.nextInt(6);
        int traits = 1 + random.nextInt(4);
        for (int i = 0; i < seats; i++) {
            call("seat", new int[] {random.nextInt(6), random.nextInt(traits), random.nextInt(41)});
        }
        for (int i = 0; i < canons; i++) {
            call("canon", new int[] {random.nextInt(6), 1 + random.nextInt(9)});
            call("sits", new int[] {i, random.nextInt(8) - 1});
        }
        for (int i = random.nextInt(4); i > 0 && canons > 0; i--) {
            call("wish", new int[] {random.nextInt(canons), random.nextInt(traits), random.nextInt(30)});
        }
        // true notes and marks, so that some kinds are left
        for (int i = random.nextInt(3); i > 0 && seats > 0; i--) {
            int d = random.nextInt(41);
            int y = random.nextInt(100);
            int h = random.nextInt(100);
            int x = Model.SEAT_KINDS[random.nextInt(6)].gives(d, y, h);
            call("note", new int[] {random.nextInt(seats), d, y, h, x});
        }
        for (int i = random.nextInt(3); i > 0 && canons > 0; i--) {
            int g = random.nextInt(41);
            int h = random.nextInt(100);
            call("mark", new int[] {random.nextInt(canons), g, h, Model.CANON_KINDS[random.nextInt(6)].takes(g, h)});
        }
    }

    private int[] numbers(String name) {
        int[] bounds = BOUNDS.getOrDefault(name, new int[0]);
        int[] n = new int[bounds.length / 2];
        for (int i = 0; i < n.length; i++) {
            int low = bounds[2 * i];
            int high = bounds[2 * i + 1];
            int pick = random.nextInt(60);
            if (pick == 0) {
                n[i] = random.nextInt();
            } else if (pick == 1) {
                n[i] = random.nextBoolean() ? Integer.MAX_VALUE : Integer.MIN_VALUE;
            } else if (pick == 2) {
                n[i] = low - 1;
            } else if (pick == 3) {
                n[i] = high + 1;
            } else if (pick <= 30) {
                n[i] = low + random.nextInt(Math.min(high - low, 3) + 1);
            } else {
                n[i] = low + random.nextInt(high - low + 1);
            }
        }
        return n;
    }

    private void tellText() throws Exception {
        call("clear", new int[0]);
        StringBuilder b = new StringBuilder("chapter;");
        int seats = random.nextInt(4);
        int canons = random.nextInt(4);
        String blank = random.nextBoolean() ? " " : "";
        for (int i = 0; i < seats; i++) {
            b.append("seat").append(blank).append(random.nextInt(6)).append(' ').append(random.nextInt(4))
                    .append(' ').append(random.nextInt(42)).append(blank).append(';');
        }
        for (int i = 0; i < canons; i++) {
            b.append("canon ").append(random.nextInt(6)).append(' ').append(random.nextInt(10)).append(';');
        }
        for (int i = random.nextInt(3); i > 0; i--) {
            b.append("sits ").append(random.nextInt(4)).append(' ').append(random.nextInt(4)).append(";years 0")
                    .append(random.nextInt(10)).append(blank).append("; ");
        }
        String signs = " ;0159acehnoprsty-A\t";
        for (int i = random.nextInt(8); i < 3 && b.length() > 1; i++) {
            int at = random.nextInt(b.length());
            switch (random.nextInt(4)) {
                case 0 -> b.deleteCharAt(at);
                case 1 -> b.insert(at, signs.charAt(random.nextInt(signs.length())));
                case 2 -> b.setCharAt(at, signs.charAt(random.nextInt(signs.length())));
                default -> b.setLength(at + 1);
            }
        }
        for (int i = 0; i < b.length(); i++) {
            call("type", new int[] {b.charAt(i)});
        }
        call("read", new int[0]);
    }

    private void call(String name, int[] n) throws Exception {
        if (!same) {
            return;
        }
        Class<?>[] sorts = new Class<?>[n.length];
        Object[] given = new Object[n.length];
        StringBuilder told = new StringBuilder(name).append('(');
        for (int i = 0; i < n.length; i++) {
            sorts[i] = int.class;
            given[i] = n[i];
            told.append(i == 0 ? "" : ", ").append(n[i]);
        }
        log.add(told.append(')').toString());
        long want = answer(Model.class.getDeclaredMethod(name, sorts), model, given);
        long got = answer(SeatScene.class.getMethod(name, sorts), scene, given);
        same = got == want && scene.digest() == model.digest();
        for (int i = 0; i < 3; i++) {
            same = same && scene.status(i) == model.refused[i];
        }
        Check.due(told.toString(), got, want);
        Check.holds("digest and status behind " + told, same);
        if (!same) {
            System.out.println("  the run: " + String.join("; ", log));
        }
    }

    private static long answer(Method m, Object on, Object[] given) throws Exception {
        try {
            return ((Number) m.invoke(on, given)).longValue();
        } catch (InvocationTargetException e) {
            throw new IllegalStateException(m.getName(), e.getCause());
        }
    }
}
