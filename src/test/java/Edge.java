/** What the tests of the boundary cases share: small posts to begin with, and calls that are refused. */
final class Edge {
    static final int ALL_DAY = 16777215;
    static final int NONE = -1;
    static final String BOUNDS = "IndexOutOfBoundsException";
    static final String ARGUMENT = "IllegalArgumentException";
    static final String STATE = "IllegalStateException";

    interface Build {
        CavershamShift made();
    }

    interface Act {
        void on(CavershamShift x);
    }

    interface Call {
        void on(CavershamShift x, int[] arguments);
    }

    private Edge() {
    }

    /** A station of land 0 and tongue 0 that comes with 90, and a monitor of skill 9 for it: quality 18. */
    static CavershamShift post() {
        return postOf(18);
    }

    /** A post with a quality of 2 to 18, while the monitor is rested. */
    static CavershamShift postOf(int quality) {
        CavershamShift x = new CavershamShift();
        int clear = Math.min(9, quality - 1);
        x.station(10, clear, 0, 0, 0, ALL_DAY);
        x.monitor(quality - clear);
        return x;
    }

    /** Up to three stations of land 0, 1, 2, each heard at its set with quality 18 from one hour to another. */
    static CavershamShift desks(int desks, int from, int to) {
        CavershamShift x = new CavershamShift();
        for (int i = 0; i < desks; i++) {
            x.station(10 + 20 * i, 9, 0, i, 0, ALL_DAY);
            x.monitor(99999);
            for (int hour = from; hour <= to; hour++) {
                x.shift(hour, i, i, i);
            }
        }
        return x;
    }

    /** Monitor 0 hears station 0 at set 0 from one hour of the day to another. */
    static void sit(CavershamShift x, int from, int to) {
        for (int hour = from; hour <= to; hour++) {
            x.shift(hour, 0, 0, 0);
        }
    }

    static CavershamShift passTo(CavershamShift x, int hour) {
        for (int now = x.desk(0); now < hour; now = x.desk(0)) {
            x.pass(Math.min(48, hour - now));
        }
        return x;
    }

    /** The call throws that very exception, each time, and the object is as one on which it was not made. */
    static void refused(Build build, String call, String kind, Act act) {
        CavershamShift x = build.made();
        CavershamShift twin = build.made();
        Checks.due(call, "throws " + Checks.thrownBy(() -> act.on(x)), "throws " + kind);
        Checks.due(call + " again", "throws " + Checks.thrownBy(() -> act.on(x)), "throws " + kind);
        Checks.due(call + " changes nothing", stateOf(x), stateOf(twin));
        if (twin.desk(0) < 720) {
            x.pass(1);
            twin.pass(1);
            Checks.due(call + " changes nothing that comes later", x.digest(), twin.digest());
        }
    }

    static void let(Build build, String call, Act act) {
        CavershamShift x = build.made();
        Checks.due(call, "throws " + Checks.thrownBy(() -> act.on(x)), "throws nothing");
    }

    /** All that is told by the digest, and what it leaves out: the whole shift, and each hour on the air. */
    private static long stateOf(CavershamShift x) {
        long state = x.digest();
        for (int hour = 0; hour < 24; hour++) {
            for (int set = 0; set < 3; set++) {
                state = (state * 31 + x.sits(hour, set, true)) * 31 + x.sits(hour, set, false);
            }
        }
        int stations = x.desk(3);
        for (int i = 0; i < 24 * stations; i++) {
            state = state * 31 + x.comes(i / 24, i % 24);
        }
        return state;
    }

    /** That argument is let at its least and most, and refused next to them and far off. */
    static void range(Build build, String kind, int[] fine, int place, int least, int most, Call call) {
        for (int good : new int[] {least, most}) {
            int[] arguments = with(fine, place, good);
            let(build, "argument " + place + " of " + good, x -> call.on(x, arguments));
        }
        for (int bad : new int[] {least - 1, most + 1, Integer.MIN_VALUE, Integer.MAX_VALUE}) {
            int[] arguments = with(fine, place, bad);
            refused(build, "argument " + place + " of " + bad, kind, x -> call.on(x, arguments));
        }
    }

    private static int[] with(int[] fine, int place, int value) {
        int[] arguments = fine.clone();
        arguments[place] = value;
        return arguments;
    }
}
