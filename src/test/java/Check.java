/** Counts the answers that are as due and prints those that are not. */
final class Check {
    static int right = 0;
    static int wrong = 0;
    private static String promise = "";

    private Check() {
    }

    static void promise(String name) {
        promise = name;
    }

    static void due(String call, long got, long want) {
        if (got == want) {
            right++;
            return;
        }
        wrong++;
        System.out.println(promise + ": " + call + " answered " + got + ", due is " + want);
    }

    static void holds(String what, boolean so) {
        due(what, so ? 1 : 0, 1);
    }

    /** Prints the closing line, and ends with exit code 1 if an answer was wrong. */
    static void close(String tests) {
        System.out.println(tests + ": " + right + " passed, " + wrong + " failed");
        if (wrong != 0) {
            System.exit(1);
        }
    }
}
