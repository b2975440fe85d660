/** What every test class has: it counts and tells the answers that are not those that are due. */
abstract class Suite {
    static final int NONE = -1;
    static final int MISSING = Integer.MIN_VALUE;
    static final int MAX = Integer.MAX_VALUE;
    static final int DATA = 0;
    static final int ENTRY = 1;
    static final int CHECKPOINT = 2;
    static final int ADD = 1;
    static final int REMOVE = 2;

    private static int wrong = 0;
    private static int sentences = 0;
    private static String now = "";

    /** Tests one sentence of the document, or one part of a promise. */
    static void sentence(String text, Runnable test) {
        now = text;
        sentences++;
        try {
            test.run();
        } catch (RuntimeException e) {
            wrong++;
            System.out.println("[" + now + "] threw " + e);
        }
    }

    static void due(String call, long got, long want) {
        if (got != want) {
            tell(call, Long.toString(got), Long.toString(want));
        }
    }

    static void due(String call, boolean got, boolean want) {
        if (got != want) {
            tell(call, Boolean.toString(got), Boolean.toString(want));
        }
    }

    static void due(String call, String got, String want) {
        if (!got.equals(want)) {
            tell(call, got, want);
        }
    }

    private static void tell(String call, String got, String want) {
        wrong++;
        System.out.println("[" + now + "] " + call + " answered " + got + ", due is " + want);
    }

    static void end() {
        System.out.println(sentences + " sentences: "
            + (wrong == 0 ? "all answers are as due" : wrong + " answers are not as due"));
        if (wrong != 0) {
            System.exit(1);
        }
    }
}
