import java.util.ArrayList;
import java.util.List;

/**
 * "If several exceptions apply, the one that is named first is thrown": each call that throws is made
 * with one and with two wrong arguments at once, on a post that is ready for it and on posts that are
 * not. The document names IndexOutOfBoundsException ahead of IllegalArgumentException, and that ahead
 * of IllegalStateException, wherever it names several.
 */
public final class OrderTest {
    private static final int ALL_DAY = Edge.ALL_DAY;
    private static final int NONE = Edge.NONE;
    private static final int LEAST = Integer.MIN_VALUE;
    private static final int MOST = Integer.MAX_VALUE;

    /** A wrong value for one argument, and what the document throws for it. */
    record Fault(int place, int value, String kind) {
    }

    /** A call, the arguments that are let, and what makes it refused, by its arguments or by the post. */
    static final class Case {
        private final String name;
        private final int[] fine;
        private final Edge.Call call;
        private final List<Fault> faults = new ArrayList<>();
        private final List<Edge.Build> notReady = new ArrayList<>();

        Case(String name, Edge.Call call, int... fine) {
            this.name = name;
            this.fine = fine;
            this.call = call;
        }

        Case wrong(int place, String kind, int... values) {
            for (int value : values) {
                faults.add(new Fault(place, value, kind));
            }
            return this;
        }

        Case notOn(Edge.Build build) {
            notReady.add(build);
            return this;
        }

        void holdsOn(Edge.Build ready) {
            Checks.part("the order of exceptions of " + name);
            Edge.let(ready, "with the right arguments", x -> call.on(x, fine));
            for (Edge.Build build : notReady) {
                refused(build, List.of(), Edge.STATE);
            }
            List<Edge.Build> posts = new ArrayList<>(notReady);
            posts.add(ready);
            for (Edge.Build post : posts) {
                eachFault(post);
            }
        }

        private void eachFault(Edge.Build post) {
            for (Fault one : faults) {
                refused(post, List.of(one), one.kind());
                for (Fault other : faults) {
                    if (one.place() < other.place()) {
                        boolean isBounds = one.kind().equals(Edge.BOUNDS) || other.kind().equals(Edge.BOUNDS);
                        refused(post, List.of(one, other), isBounds ? Edge.BOUNDS : Edge.ARGUMENT);
                    }
                }
            }
        }

        private void refused(Edge.Build post, List<Fault> wrong, String kind) {
            int[] arguments = fine.clone();
            for (Fault fault : wrong) {
                arguments[fault.place()] = fault.value();
            }
            Edge.refused(post, name + " with " + wrong, kind, x -> call.on(x, arguments));
        }
    }

    private OrderTest() {
    }

    public static void main(String[] args) {
        whatIsOnTheAir();
        whoListens();
        whatIsSpoken();
        whoReads();
        hours();
        whatIsAsked();
        Checks.end("OrderTest");
    }

    /** As many of each as is said; the shift has monitor i at set i on station i in hour 3. */
    private static CavershamShift post(int stations, int monitors, int talks, int readers) {
        CavershamShift x = new CavershamShift();
        for (int i = 0; i < stations; i++) {
            x.station(10 * i, 9, 0, i % 6, 0, ALL_DAY - (1 << 23));
        }
        for (int i = 0; i < monitors; i++) {
            x.monitor(99999);
        }
        for (int i = 0; i < 3 && i < stations && i < monitors; i++) {
            x.shift(3, i, i, i);
        }
        for (int i = 0; i < talks; i++) {
            x.talk(i % stations, 3 + 24 * (i / stations), i % 16, 300, i % 10, 65535);
        }
        for (int i = 0; i < readers; i++) {
            x.reader(63, 65535);
        }
        return x;
    }

    private static CavershamShift some() {
        return post(3, 4, 3, 2);
    }

    private static void whatIsOnTheAir() {
        new Case("station", (x, a) -> x.station(a[0], a[1], a[2], a[3], a[4], a[5]), 5, 5, 5, 3, 3, 7)
                .wrong(0, Edge.ARGUMENT, -1, 100, LEAST).wrong(1, Edge.ARGUMENT, 0, 10).wrong(2, Edge.ARGUMENT, -1, 10)
                .wrong(3, Edge.ARGUMENT, -1, 6).wrong(4, Edge.ARGUMENT, -1, 5, MOST)
                .wrong(5, Edge.ARGUMENT, -1, ALL_DAY + 1).notOn(() -> post(8, 1, 1, 1)).holdsOn(OrderTest::some);
        new Case("drift", (x, a) -> x.drift(a[0], a[1]), 1, 5)
                .wrong(0, Edge.BOUNDS, -1, 3, LEAST, MOST).wrong(1, Edge.ARGUMENT, -1, 100, LEAST, MOST)
                .holdsOn(OrderTest::some);
        new Case("jammer", (x, a) -> x.jammer(a[0], a[1]), 5, 5)
                .wrong(0, Edge.ARGUMENT, -1, 100, LEAST).wrong(1, Edge.ARGUMENT, -1, 10, MOST)
                .notOn(() -> jammed(6)).holdsOn(() -> jammed(5));
        new Case("jam", (x, a) -> x.jam(a[0], a[1]), 1, 5)
                .wrong(0, Edge.BOUNDS, -1, 2, LEAST, MOST).wrong(1, Edge.ARGUMENT, -1, 10, LEAST, MOST)
                .holdsOn(() -> jammed(2));
    }

    private static CavershamShift jammed(int jammers) {
        CavershamShift x = some();
        for (int i = 0; i < jammers; i++) {
            x.jammer(10 * i, 1);
        }
        return x;
    }

    private static void whoListens() {
        new Case("monitor", (x, a) -> x.monitor(a[0]), 99999).wrong(0, Edge.ARGUMENT, -1, 100000, LEAST, MOST)
                .notOn(() -> post(1, 5, 1, 1)).holdsOn(OrderTest::some);
        // Monitor 1 sits at set 1 in hour 3; with nothing for both the call would be let.
        Edge.Call write = (x, a) -> x.shift(a[0], a[1], a[2], a[3]);
        new Case("shift", write, 4, 2, 1, 1)
                .wrong(0, Edge.BOUNDS, -1, 24, LEAST).wrong(1, Edge.BOUNDS, -1, 3, MOST)
                .wrong(2, Edge.BOUNDS, -2, 3, LEAST).wrong(3, Edge.BOUNDS, -2, 4, MOST).holdsOn(OrderTest::some);
        new Case("shift without a station", write, 4, 2, 1, 1)
                .wrong(0, Edge.BOUNDS, -1, 24).wrong(1, Edge.BOUNDS, -1, 3).wrong(2, Edge.ARGUMENT, NONE)
                .wrong(3, Edge.BOUNDS, -2, 4).holdsOn(OrderTest::some);
        new Case("shift without a monitor", write, 4, 2, 1, 1)
                .wrong(0, Edge.BOUNDS, -1, 24).wrong(1, Edge.BOUNDS, -1, 3).wrong(2, Edge.BOUNDS, -2, 3)
                .wrong(3, Edge.ARGUMENT, NONE).holdsOn(OrderTest::some);
        new Case("shift of one who sits elsewhere", write, 4, 2, 1, 1)
                .wrong(0, Edge.STATE, 3).holdsOn(OrderTest::some);
        Edge.refused(OrderTest::some, "one who sits elsewhere, no such set", Edge.BOUNDS, x -> x.shift(3, 3, 1, 1));
        Edge.refused(OrderTest::some, "one who sits elsewhere, no such station", Edge.BOUNDS, x -> x.shift(3, 2, 3, 1));
        Edge.refused(OrderTest::some, "one who sits elsewhere, no station", Edge.ARGUMENT, x -> x.shift(3, 2, NONE, 1));
    }

    private static void whatIsSpoken() {
        Edge.Call speak = (x, a) -> x.talk(a[0], a[1], a[2], a[3], a[4], a[5]);
        new Case("talk", speak, 0, 28, 5, 5, 5, 5)
                .wrong(0, Edge.BOUNDS, -1, 8, LEAST).wrong(1, Edge.ARGUMENT, 23, 720, LEAST, MOST)
                .wrong(2, Edge.ARGUMENT, -1, 16).wrong(3, Edge.ARGUMENT, 0, 301).wrong(4, Edge.ARGUMENT, -1, 10)
                .wrong(5, Edge.ARGUMENT, -1, 65536).notOn(() -> nextDay(post(8, 3, 40, 1)))
                .holdsOn(() -> nextDay(post(8, 3, 39, 1)));
        for (int hour : new int[] {27, 47}) {
            new Case("talk off the air or where one is, in hour " + hour, speak, 0, hour, 5, 5, 5, 5)
                    .wrong(0, Edge.BOUNDS, -1, 3).wrong(2, Edge.ARGUMENT, -1, 16).wrong(3, Edge.ARGUMENT, 0, 301)
                    .wrong(4, Edge.ARGUMENT, -1, 10).wrong(5, Edge.ARGUMENT, -1, 65536)
                    .notOn(() -> nextDay(post(3, 3, 6, 1))).holdsOn(() -> nextDay(spokenAt(hour)));
        }
        new Case("print", (x, a) -> x.print(a[0], a[1]), 0, 5)
                .wrong(0, Edge.BOUNDS, -1, 3, LEAST, MOST).wrong(1, Edge.ARGUMENT, -1, 65536, LEAST, MOST)
                .notOn(OrderTest::printed).holdsOn(OrderTest::some);
        new Case("wouldHear", (x, a) -> x.wouldHear(a[0]), 0).wrong(0, Edge.BOUNDS, -1, 3, LEAST, MOST)
                .notOn(() -> nextDay(some())).holdsOn(OrderTest::some);
    }

    /** In that hour station 0 is on the air, and has no talk. */
    private static CavershamShift spokenAt(int hour) {
        CavershamShift x = new CavershamShift();
        for (int i = 0; i < 3; i++) {
            x.station(10 * i, 9, 0, 0, 0, 1 << hour % 24);
        }
        x.talk(1, hour, 0, 1, 0, 0);
        return x;
    }

    private static CavershamShift nextDay(CavershamShift x) {
        return Edge.passTo(x, 24);
    }

    private static CavershamShift printed() {
        CavershamShift x = some();
        x.print(0, 0);
        return x;
    }

    private static void whoReads() {
        new Case("reader", (x, a) -> x.reader(a[0], a[1]), 5, 5)
                .wrong(0, Edge.ARGUMENT, -1, 64, LEAST).wrong(1, Edge.ARGUMENT, -1, 65536, MOST)
                .notOn(() -> post(1, 1, 1, 4)).holdsOn(OrderTest::some);
        new Case("ask", (x, a) -> x.ask(a[0], a[1], a[2]), 1, 5, 5)
                .wrong(0, Edge.BOUNDS, -1, 2, LEAST, MOST).wrong(1, Edge.ARGUMENT, -1, 64, LEAST)
                .wrong(2, Edge.ARGUMENT, -1, 65536, MOST).holdsOn(OrderTest::some);
        new Case("partner", (x, a) -> x.partner(a[0]), 5).wrong(0, Edge.ARGUMENT, -1, 64, LEAST, MOST)
                .holdsOn(OrderTest::some);
        new Case("got", (x, a) -> x.got(a[0], a[1]), 1, 1).wrong(0, Edge.BOUNDS, -1, 2, LEAST)
                .wrong(1, Edge.BOUNDS, -1, 3, MOST).holdsOn(OrderTest::some);
    }

    private static void hours() {
        new Case("pass", (x, a) -> x.pass(a[0]), 2).wrong(0, Edge.ARGUMENT, 0, -1, 49, LEAST, MOST)
                .notOn(() -> Edge.passTo(some(), 719)).notOn(() -> Edge.passTo(some(), 720))
                .holdsOn(() -> Edge.passTo(some(), 718));
    }

    private static void whatIsAsked() {
        fact("ofStation", (x, a) -> x.ofStation(a[0], a[1]), 3, 8);
        fact("ofMonitor", (x, a) -> x.ofMonitor(a[0], a[1]), 4, 8);
        fact("ofTalk", (x, a) -> x.ofTalk(a[0], a[1]), 3, 7);
        fact("ofReport", (x, a) -> x.ofReport(a[0], a[1]), 3, 11);
        fact("ofReader", (x, a) -> x.ofReader(a[0], a[1]), 2, 4);
    }

    /** There are so many of these, and the facts of each go from 0 to the last one. */
    private static void fact(String name, Edge.Call call, int count, int last) {
        new Case(name, call, count - 1, last).wrong(0, Edge.BOUNDS, -1, count, LEAST, MOST)
                .wrong(1, Edge.ARGUMENT, -1, last + 1, LEAST, MOST).holdsOn(OrderTest::some);
    }
}
