/** Counts and prints what is not as it is due. */
final class Checks {
    interface Call {
        void run();
    }

    private static int checks = 0;
    private static int wrong = 0;
    private static String part = "";

    private Checks() {
    }

    static void part(String name) {
        part = name;
    }

    static void due(String call, long got, long want) {
        tell(call, got == want, Long.toString(got), Long.toString(want));
    }

    static void due(String call, boolean got, boolean want) {
        tell(call, got == want, Boolean.toString(got), Boolean.toString(want));
    }

    static void due(String call, double got, double want) {
        tell(call, got == want, Double.toString(got), Double.toString(want));
    }

    static void due(String call, String got, String want) {
        tell(call, want.equals(got), got, want);
    }

    static void outOfBounds(CavershamShift x, String call, Call made) {
        fails(x, call, "IndexOutOfBoundsException", made);
    }

    static void badArgument(CavershamShift x, String call, Call made) {
        fails(x, call, "IllegalArgumentException", made);
    }

    static void badState(CavershamShift x, String call, Call made) {
        fails(x, call, "IllegalStateException", made);
    }

    /** The exception must be the document's very class, and the object must be as before. */
    private static void fails(CavershamShift x, String call, String kind, Call made) {
        long before = x.digest();
        String thrown = thrownBy(made);
        tell(call, kind.equals(thrown), "throws " + thrown, "throws " + kind);
        due(call + " changes nothing", x.digest(), before);
    }

    /** The name of the exception that the call throws, or "nothing". */
    static String thrownBy(Call made) {
        try {
            made.run();
            return "nothing";
        } catch (RuntimeException e) {
            return nameOf(e);
        }
    }

    /** The library's own exceptions do not count for the document's: it is the class that must throw. */
    static String nameOf(RuntimeException e) {
        StackTraceElement[] places = e.getStackTrace();
        boolean isByLibrary = places.length > 0 && places[0].getClassName().contains(".");
        return (isByLibrary ? "the library's " : "") + e.getClass().getSimpleName();
    }

    private static void tell(String call, boolean isRight, String got, String want) {
        checks++;
        if (!isRight) {
            wrong++;
            System.out.println(part + ": " + call + " answered " + got + ", due is " + want);
        }
    }

    static void end(String test) {
        System.out.println(test + ": " + checks + " checks, " + wrong + " wrong");
        if (wrong != 0 || checks == 0) {
            System.exit(1);
        }
    }
}
