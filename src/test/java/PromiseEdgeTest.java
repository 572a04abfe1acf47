import java.math.BigInteger;
import java.util.ArrayList;
import java.util.List;

/** A test for each sentence of the document's promises 1 to 35: what is answered at the edges, and what is refused. */
public final class PromiseEdgeTest {
    private static final int ALL_DAY = Edge.ALL_DAY;
    private static final int NONE = Edge.NONE;
    private static final int LEAST = Integer.MIN_VALUE;
    private static final int MOST = Integer.MAX_VALUE;

    private PromiseEdgeTest() {
    }

    public static void main(String[] args) {
        newObject();
        station();
        drift();
        jammer();
        jam();
        monitor();
        shift();
        talk();
        print();
        reader();
        ask();
        partner();
        pass();
        call();
        ofStation();
        comes();
        ofMonitor();
        sits();
        quality();
        ofTalk();
        ofReport();
        got();
        ofReader();
        used();
        gone();
        first();
        clarity();
        desk();
        tell();
        best();
        bestAt();
        wouldHear();
        wouldSend();
        isSound();
        digest();
        for (int promise = 1; promise <= 35; promise++) {
            Document.allAreNamed("Promise " + promise);
        }
        Checks.end("PromiseEdgeTest");
    }

    /** What is asked by a number is refused with the numbers around those that there are. */
    private static void noSuch(Edge.Build build, int count, Edge.Call call) {
        for (int bad : new int[] {-1, -2, count, count + 1, LEAST, MOST}) {
            Edge.refused(build, "number " + bad, Edge.BOUNDS, x -> call.on(x, new int[] {bad}));
        }
        for (int good = 0; good < count; good++) {
            int[] number = {good};
            Edge.let(build, "number " + good, x -> call.on(x, number));
        }
    }

    private static void newObject() {
        Document.sentence("Promise 1", "Creates a listening post without STATIONS and MONITORS.");
        CavershamShift x = new CavershamShift();
        for (int what = 0; what <= 18; what++) {
            Checks.due("desk(" + what + ")", x.desk(what), what == 13 ? 600 : 0);
        }
        for (int i = 0; i < 24; i++) {
            Checks.due("best(" + i + ")", x.best(i), 0);
        }
        for (int land = 0; land < 6; land++) {
            Checks.due("gone", x.gone(land), 0);
            Checks.due("clarity", x.clarity(land), 0.0);
        }
        Checks.due("wouldSend()", x.wouldSend(), 0);
        Checks.due("isSound()", x.isSound(), true);
        Checks.due("pass(48)", x.pass(48), 48);
        CavershamShift other = new CavershamShift();
        other.call();
        other.station(1, 1, 1, 1, 1, 1);
        Checks.due("each has its own", x.desk(18) + x.desk(3), 0);
    }

    // ---- what is told.

    private static CavershamShift stations(int count) {
        CavershamShift x = new CavershamShift();
        for (int i = 0; i < count; i++) {
            x.station(10 * i, 9, 0, i % 6, i % 5, ALL_DAY);
        }
        return x;
    }

    private static void station() {
        Document.sentence("Promise 2", "Tells a STATION.");
        CavershamShift x = new CavershamShift();
        x.station(99, 9, 0, 5, 4, 1);
        int[] facts = {99, 9, 0, 5, 4, 1, 90, 0, 0};
        for (int what = 0; what < 9; what++) {
            Checks.due("ofStation(0, " + what + ")", x.ofStation(0, what), facts[what]);
        }
        Document.sentence("Promise 2", "Returns its number.");
        for (int i = 1; i < 8; i++) {
            Checks.due("the number", x.station(1, 1, 1, 1, 1, 1), i);
        }
        Document.sentence("Promise 2", "if band is not 0 to 99, power not 1 to 9, far not 0 to 9, land not 0 to 5, tongue not 0 to 4");
        int[][] ranges = {{0, 99}, {1, 9}, {0, 9}, {0, 5}, {0, 4}, {0, ALL_DAY}};
        for (int i = 0; i < 6; i++) {
            Edge.range(CavershamShift::new, Edge.ARGUMENT, new int[] {5, 5, 5, 5, 4, 5}, i, ranges[i][0], ranges[i][1],
                    (y, a) -> y.station(a[0], a[1], a[2], a[3], a[4], a[5]));
        }
        Document.sentence("Promise 2", "Throws `IllegalStateException` if there are 8");
        Edge.let(() -> stations(7), "the eighth", y -> y.station(0, 1, 0, 0, 0, 0));
        Edge.refused(() -> stations(8), "the ninth", Edge.STATE, y -> y.station(0, 1, 0, 0, 0, 0));
        Edge.refused(() -> stations(8), "the ninth, wrong", Edge.ARGUMENT, y -> y.station(0, 1, 0, 0, 0, ALL_DAY + 1));
    }

    private static void drift() {
        Document.sentence("Promise 3", "A STATION drifts.");
        CavershamShift x = stations(2);
        x.drift(0, 11);
        Checks.due("comes next to another", x.comes(0, 12), 80);
        Document.sentence("Promise 3", "Returns that before.");
        Checks.due("drift(0, 0)", x.drift(0, 0), 11);
        Checks.due("drift(0, 99)", x.drift(0, 99), 0);
        Checks.due("drift(0, 99)", x.drift(0, 99), 99);
        Checks.due("that of the other", x.ofStation(1, 0), 10);
        Document.sentence("Promise 3", "Throws `IndexOutOfBoundsException` if there is no such STATION");
        noSuch(() -> stations(2), 2, (y, a) -> y.drift(a[0], 5));
        noSuch(CavershamShift::new, 0, (y, a) -> y.drift(a[0], 5));
        noSuch(() -> stations(8), 8, (y, a) -> y.drift(a[0], 5));
        Document.sentence("Promise 3", "Throws `IllegalArgumentException` if band is not 0 to 99");
        Edge.range(() -> stations(2), Edge.ARGUMENT, new int[] {1, 5}, 1, 0, 99, (y, a) -> y.drift(a[0], a[1]));
    }

    private static CavershamShift jammers(int count) {
        CavershamShift x = Edge.post();
        for (int i = 0; i < count; i++) {
            x.jammer(10, i);
        }
        return x;
    }

    private static void jammer() {
        Document.sentence("Promise 4", "Tells a JAMMER.");
        CavershamShift x = Edge.post();
        x.jammer(10, 9);
        Checks.due("under it", x.comes(0, 12), 18);
        Document.sentence("Promise 4", "Returns its number.");
        for (int i = 1; i < 6; i++) {
            Checks.due("the number", x.jammer(99, 0), i);
        }
        Document.sentence("Promise 4", "if band is not 0 to 99, or power not 0 to 9");
        Edge.range(Edge::post, Edge.ARGUMENT, new int[] {5, 5}, 0, 0, 99, (y, a) -> y.jammer(a[0], a[1]));
        Edge.range(Edge::post, Edge.ARGUMENT, new int[] {5, 5}, 1, 0, 9, (y, a) -> y.jammer(a[0], a[1]));
        Document.sentence("Promise 4", "Throws `IllegalStateException` if there are 6");
        Edge.let(() -> jammers(5), "the sixth", y -> y.jammer(10, 1));
        Edge.refused(() -> jammers(6), "the seventh", Edge.STATE, y -> y.jammer(10, 1));
        Edge.refused(() -> jammers(6), "the seventh, wrong", Edge.ARGUMENT, y -> y.jammer(100, 1));
    }

    private static void jam() {
        Document.sentence("Promise 5", "Turns a JAMMER.");
        CavershamShift x = jammers(2);
        x.jam(1, 9);
        Checks.due("at the most", x.comes(0, 12), 18);
        x.jam(1, 0);
        Checks.due("off", x.comes(0, 12), 90);
        Document.sentence("Promise 5", "Returns that before.");
        Checks.due("jam(1, 9)", x.jam(1, 9), 0);
        Checks.due("jam(1, 9)", x.jam(1, 9), 9);
        Checks.due("jam(0, 1)", x.jam(0, 1), 0);
        Document.sentence("Promise 5", "Throws `IndexOutOfBoundsException` if there is no such JAMMER");
        noSuch(() -> jammers(2), 2, (y, a) -> y.jam(a[0], 5));
        noSuch(() -> jammers(0), 0, (y, a) -> y.jam(a[0], 5));
        noSuch(() -> jammers(6), 6, (y, a) -> y.jam(a[0], 5));
        Document.sentence("Promise 5", "Throws `IllegalArgumentException` if power is not 0 to 9");
        Edge.range(() -> jammers(2), Edge.ARGUMENT, new int[] {1, 5}, 1, 0, 9, (y, a) -> y.jam(a[0], a[1]));
    }

    private static CavershamShift monitors(int count) {
        CavershamShift x = stations(2);
        for (int i = 0; i < count; i++) {
            x.monitor(99999);
        }
        return x;
    }

    private static void monitor() {
        Document.sentence("Promise 6", "Tells a MONITOR.");
        int[][] skills = {{0, 0, 0, 0, 0, 0}, {1, 1, 0, 0, 0, 0}, {10, 0, 1, 0, 0, 0}, {90000, 0, 0, 0, 0, 9},
            {9999, 9, 9, 9, 9, 0}, {99999, 9, 9, 9, 9, 9}};
        for (int[] s : skills) {
            CavershamShift x = new CavershamShift();
            x.monitor(s[0]);
            for (int what = 0; what < 9; what++) {
                Checks.due("fact " + what + " of " + s[0], x.ofMonitor(0, what), what < 5 ? s[what + 1] : what == 8 ? NONE : 0);
            }
        }
        Document.sentence("Promise 6", "Returns the number.");
        CavershamShift y = new CavershamShift();
        for (int i = 0; i < 5; i++) {
            Checks.due("the number", y.monitor(0), i);
        }
        Document.sentence("Promise 6", "Throws `IllegalArgumentException` if skills is not 0 to 99999");
        Edge.range(CavershamShift::new, Edge.ARGUMENT, new int[] {5}, 0, 0, 99999, (z, a) -> z.monitor(a[0]));
        Document.sentence("Promise 6", "Throws `IllegalStateException` if there are 5");
        Edge.let(() -> monitors(4), "the fifth", z -> z.monitor(0));
        Edge.refused(() -> monitors(5), "the sixth", Edge.STATE, z -> z.monitor(0));
        Edge.refused(() -> monitors(5), "the sixth, wrong", Edge.ARGUMENT, z -> z.monitor(-1));
    }

    private static void shift() {
        Document.sentence("Promise 7", "Writes the SHIFT.");
        CavershamShift x = monitors(2);
        for (int hour = 0; hour < 24; hour += 23) {
            for (int set = 0; set < 3; set += 2) {
                x.shift(hour, set, 1, set / 2);
                Checks.due("the station", x.sits(hour, set, false), 1);
                Checks.due("the monitor", x.sits(hour, set, true), set / 2);
            }
        }
        Checks.due("the set between", x.sits(0, 1, true), NONE);
        Document.sentence("Promise 7", "Returns which STATION it was (NONE).");
        Checks.due("a station", x.shift(0, 0, 0, 0), 1);
        Checks.due("the first station", x.shift(0, 0, NONE, NONE), 0);
        Checks.due("nothing", x.shift(0, 0, NONE, NONE), NONE);
        Checks.due("nothing", x.shift(0, 0, 1, 0), NONE);
        Document.sentence("Promise 7", "if hour is not 0 to 23, set not 0 to 2, or there is no such STATION, or MONITOR (NONE is let for each)");
        int[] fine = {5, 1, 1, 1};
        Edge.range(() -> monitors(2), Edge.BOUNDS, fine, 0, 0, 23, PromiseEdgeTest::writeShift);
        Edge.range(() -> monitors(2), Edge.BOUNDS, fine, 1, 0, 2, PromiseEdgeTest::writeShift);
        for (int bad : new int[] {-2, 2, LEAST, MOST}) {
            Edge.refused(() -> monitors(2), "station " + bad, Edge.BOUNDS, y -> y.shift(5, 1, bad, 1));
            Edge.refused(() -> monitors(2), "monitor " + bad, Edge.BOUNDS, y -> y.shift(5, 1, 1, bad));
            Edge.refused(() -> monitors(2), "station " + bad + " of NONE", Edge.BOUNDS, y -> y.shift(5, 1, bad, NONE));
            Edge.refused(() -> monitors(2), "monitor " + bad + " of NONE", Edge.BOUNDS, y -> y.shift(5, 1, NONE, bad));
        }
        Edge.let(CavershamShift::new, "nothing where nothing is", y -> y.shift(23, 2, NONE, NONE));
        Edge.refused(() -> stations(1), "no monitors", Edge.BOUNDS, y -> y.shift(0, 0, 0, 0));
        shiftOfOne();
    }

    private static void writeShift(CavershamShift x, int[] a) {
        x.shift(a[0], a[1], a[2], a[3]);
    }

    private static void shiftOfOne() {
        Document.sentence("Promise 7", "Throws `IllegalArgumentException` if just one of both is NONE");
        Edge.refused(() -> monitors(2), "no station", Edge.ARGUMENT, x -> x.shift(5, 1, NONE, 1));
        Edge.refused(() -> monitors(2), "no monitor", Edge.ARGUMENT, x -> x.shift(5, 1, 0, NONE));
        Edge.let(() -> monitors(2), "both", x -> x.shift(5, 1, NONE, NONE));
        Document.sentence("Promise 7", "Throws `IllegalStateException` if that MONITOR sits at another SET in that HOUR OF THE DAY");
        Edge.Build build = () -> {
            CavershamShift x = monitors(2);
            x.shift(23, 0, 0, 0);
            x.shift(23, 1, 0, 1);
            return x;
        };
        Edge.refused(build, "at a free set", Edge.STATE, x -> x.shift(23, 2, 1, 0));
        Edge.refused(build, "in place of another", Edge.STATE, x -> x.shift(23, 1, 1, 0));
        Edge.refused(build, "in place of another", Edge.STATE, x -> x.shift(23, 0, 0, 1));
        Edge.let(build, "at its own set", x -> x.shift(23, 0, 1, 0));
        Edge.let(build, "in another hour", x -> x.shift(22, 2, 1, 0));
        Edge.let(build, "behind leaving it", x -> {
            x.shift(23, 0, NONE, NONE);
            x.shift(23, 2, 1, 0);
        });
        Edge.refused(build, "no station, elsewhere", Edge.ARGUMENT, x -> x.shift(23, 2, NONE, 0));
    }

    /** Talks from hour 100 on, of a station that is off the air in the last hour of each day, as is hour 119. */
    private static CavershamShift talks(int count) {
        CavershamShift x = new CavershamShift();
        x.station(10, 9, 0, 0, 0, ALL_DAY - (1 << 23));
        x.monitor(99999);
        for (int i = 0; i < count; i++) {
            x.talk(0, i < 19 ? 100 + i : 101 + i, 0, 1, 0, 0);
        }
        return x;
    }

    private static void talk() {
        Document.sentence("Promise 8", "Tells a TALK.");
        CavershamShift x = Edge.post();
        x.talk(0, 719, 15, 300, 9, 65535);
        int[] facts = {0, 719, 15, 300, 9, 65535, NONE, 0};
        for (int what = 0; what < 8; what++) {
            Checks.due("ofTalk(0, " + what + ")", x.ofTalk(0, what), facts[what]);
        }
        Document.sentence("Promise 8", "Returns its number.");
        for (int i = 1; i < 40; i++) {
            Checks.due("the number", x.talk(0, i, 0, 1, 0, 0), i);
        }
        Document.sentence("Promise 8", "Throws `IndexOutOfBoundsException` if there is no such STATION");
        noSuch(() -> stations(2), 2, (y, a) -> y.talk(a[0], 0, 0, 1, 0, 0));
        noSuch(CavershamShift::new, 0, (y, a) -> y.talk(a[0], 0, 0, 1, 0, 0));
        Document.sentence("Promise 8", "if hour is not HOUR to 719, topic not 0 to 15, words not 1 to 300, weight not 0 to 9, or formulas not 0 to 65535");
        int[][] ranges = {{0, 0}, {0, 719}, {0, 15}, {1, 300}, {0, 9}, {0, 65535}};
        int[] fine = {0, 5, 5, 5, 5, 5};
        for (int i = 1; i < 6; i++) {
            Edge.range(Edge::post, Edge.ARGUMENT, fine, i, ranges[i][0], ranges[i][1], PromiseEdgeTest::speak);
        }
        Edge.range(() -> Edge.passTo(Edge.post(), 30), Edge.ARGUMENT, fine, 1, 30, 719, PromiseEdgeTest::speak);
        Edge.range(() -> Edge.passTo(Edge.post(), 719), Edge.ARGUMENT, fine, 1, 719, 719, PromiseEdgeTest::speak);
        Edge.refused(() -> Edge.passTo(Edge.post(), 720), "no hour is left", Edge.ARGUMENT, y -> y.talk(0, 720, 0, 1, 0, 0));
        Document.sentence("Promise 8", "if there are 40, the STATION is not on the air in that HOUR, or has a TALK in it");
        Edge.let(() -> talks(39), "the 40th", y -> y.talk(0, 0, 0, 1, 0, 0));
        Edge.refused(() -> talks(40), "the 41st", Edge.STATE, y -> y.talk(0, 0, 0, 1, 0, 0));
        Edge.refused(() -> talks(0), "off the air", Edge.STATE, y -> y.talk(0, 719, 0, 1, 0, 0));
        Edge.let(() -> talks(0), "on the air", y -> y.talk(0, 718, 0, 1, 0, 0));
        Edge.refused(() -> talks(1), "has a talk", Edge.STATE, y -> y.talk(0, 100, 0, 1, 0, 0));
        Edge.let(() -> talks(1), "has none", y -> y.talk(0, 99, 0, 1, 0, 0));
    }

    private static void speak(CavershamShift x, int[] a) {
        x.talk(a[0], a[1], a[2], a[3], a[4], a[5]);
    }

    /** A talk in hour 0, heard with this quality. */
    private static CavershamShift heard(int quality, int weight, int formulas) {
        CavershamShift x = Edge.postOf(quality);
        x.shift(0, 0, 0, 0);
        x.talk(0, 0, 0, 18, weight, formulas);
        x.pass(1);
        return x;
    }

    private static void print() {
        Document.sentence("Promise 9", "Tells the PRINT of a TALK.");
        for (int print : new int[] {0, 1, 65535}) {
            CavershamShift x = heard(18, 5, 0);
            x.print(0, print);
            Checks.due("the print", x.ofTalk(0, 6), print);
        }
        Document.sentence("Promise 9", "Returns the set of those of the PRINT that its REPORT has not; NONE without a REPORT.");
        int[][] due = {{2, 9, 0, 0, 0}, {2, 9, 0, 65535, 65535}, {2, 9, 65535, 65535, 65524}, {18, 9, 65535, 65535, 0},
            {15, 9, 65535, 65535, 32768}, {14, 9, 65535, 65535, 16384}, {18, 2, 1, 3, 2}, {2, 9, 4, 8, 0}, {2, 9, 4, 4, 4}};
        for (int[] d : due) {
            CavershamShift x = heard(d[0], d[1], d[2]);
            Checks.due("of " + d[2] + " with " + d[0] + ", printed " + d[3], x.print(0, d[3]), d[4]);
        }
        Checks.due("to come", talks(1).print(0, 65535), NONE);
        Checks.due("to come, an empty one", talks(1).print(0, 0), NONE);
        Checks.due("in its hour", Edge.passTo(talks(1), 100).print(0, 65535), NONE);
        Checks.due("missed", Edge.passTo(talks(1), 101).print(0, 65535), NONE);
        CavershamShift given = Edge.desks(3, 0, 0);
        given.partner(4);
        given.talk(0, 0, 0, 300, 6, 1);
        given.talk(1, 0, 0, 300, 6, 1);
        given.talk(2, 0, 0, 300, 6, 1);
        given.pass(1);
        Checks.due("of a given report", given.print(2, 3), 2);
        Document.sentence("Promise 9", "Throws `IndexOutOfBoundsException` if there is no such TALK");
        noSuch(() -> talks(2), 2, (y, a) -> y.print(a[0], 0));
        noSuch(() -> talks(0), 0, (y, a) -> y.print(a[0], 0));
        noSuch(() -> talks(40), 40, (y, a) -> y.print(a[0], 0));
        Document.sentence("Promise 9", "Throws `IllegalArgumentException` if formulas is not 0 to 65535");
        Edge.range(() -> talks(1), Edge.ARGUMENT, new int[] {0, 5}, 1, 0, 65535, (y, a) -> y.print(a[0], a[1]));
        printedTwice();
    }

    private static void printedTwice() {
        Document.sentence("Promise 9", "Throws `IllegalStateException` if there is a PRINT of it");
        for (int print : new int[] {0, 1, 65535}) {
            Edge.Build ahead = () -> {
                CavershamShift x = talks(2);
                x.print(0, print);
                return x;
            };
            Edge.refused(ahead, "a second one", Edge.STATE, x -> x.print(0, 0));
            Edge.refused(ahead, "a second one", Edge.STATE, x -> x.print(0, print));
            Edge.refused(() -> Edge.passTo(ahead.made(), 101), "a second one, later", Edge.STATE, x -> x.print(0, 1));
            Edge.let(ahead, "of another talk", x -> x.print(1, 0));
            Edge.refused(ahead, "a second one, wrong", Edge.ARGUMENT, x -> x.print(0, -1));
        }
        CavershamShift y = heard(18, 9, 0);
        y.print(0, 1);
        Checks.due("the second of a report in error", "throws " + Checks.thrownBy(() -> y.print(0, 0)), "throws " + Edge.STATE);
        Checks.due("still in error", y.ofReport(0, 10), 1);
        Checks.due("one correction", y.desk(14), 1);
    }

    private static CavershamShift readers(int count) {
        CavershamShift x = new CavershamShift();
        for (int i = 0; i < count; i++) {
            x.reader(63, 65535);
        }
        return x;
    }

    private static void reader() {
        Document.sentence("Promise 10", "Tells a READER.");
        for (int[] sets : new int[][] {{0, 0}, {63, 65535}, {32, 32768}, {1, 1}}) {
            CavershamShift x = new CavershamShift();
            x.reader(sets[0], sets[1]);
            int[] facts = {sets[0], sets[1], 0, 0, 0};
            for (int what = 0; what < 5; what++) {
                Checks.due("ofReader(0, " + what + ")", x.ofReader(0, what), facts[what]);
            }
        }
        Document.sentence("Promise 10", "Returns the number.");
        CavershamShift y = new CavershamShift();
        for (int i = 0; i < 4; i++) {
            Checks.due("the number", y.reader(0, 0), i);
        }
        Document.sentence("Promise 10", "if lands is not 0 to 63, or topics not 0 to 65535");
        Edge.range(CavershamShift::new, Edge.ARGUMENT, new int[] {5, 5}, 0, 0, 63, (z, a) -> z.reader(a[0], a[1]));
        Edge.range(CavershamShift::new, Edge.ARGUMENT, new int[] {5, 5}, 1, 0, 65535, (z, a) -> z.reader(a[0], a[1]));
        Document.sentence("Promise 10", "Throws `IllegalStateException` if there are 4");
        Edge.let(() -> readers(3), "the fourth", z -> z.reader(0, 0));
        Edge.refused(() -> readers(4), "the fifth", Edge.STATE, z -> z.reader(0, 0));
        Edge.refused(() -> readers(4), "the fifth, wrong", Edge.ARGUMENT, z -> z.reader(0, 65536));
    }

    /** Reports of lands 0, 1, 2 on topics 0, 14, 15: the first two are sent, those of lands 1 and 2 from hour 1 wait. */
    private static CavershamShift waiting() {
        CavershamShift x = Edge.desks(3, 0, 1);
        x.reader(0, 0);
        x.talk(0, 0, 0, 300, 5, 3);
        x.talk(1, 0, 14, 300, 5, 3);
        x.pass(1);
        x.talk(0, 1, 0, 300, 2, 3);
        x.talk(1, 1, 14, 300, 5, 3);
        x.talk(2, 1, 15, 300, 9, 3);
        x.pass(1);
        return x;
    }

    private static void ask() {
        Document.sentence("Promise 11", "A READER asks anew.");
        CavershamShift x = waiting();
        x.ask(0, 2, 1 << 14);
        Checks.due("lands", x.ofReader(0, 0), 2);
        Checks.due("topics", x.ofReader(0, 1), 1 << 14);
        Edge.passTo(x, 25);
        Checks.due("as it asked", x.got(0, 3), 1);
        Checks.due("another land", x.got(0, 4), 0);
        Document.sentence("Promise 11", "Returns how many of the REPORTS that WAIT it would have by that.");
        int[][] due = {{63, 65535, 2}, {0, 65535, 0}, {63, 0, 0}, {0, 0, 0}, {1, 65535, 0}, {2, 65535, 1}, {4, 65535, 1},
            {6, 65535, 2}, {63, 1 << 15, 1}, {63, 1 << 14, 1}, {63, 1, 0}, {2, 1 << 15, 0}, {4, 1 << 15, 1}};
        CavershamShift y = waiting();
        for (int[] d : due) {
            Checks.due("lands " + d[0] + ", topics " + d[1], y.ask(0, d[0], d[1]), d[2]);
        }
        y.ask(0, 63, 65535);
        Edge.passTo(y, 25);
        Checks.due("none waits", y.ask(0, 63, 65535), 0);
        Checks.due("nothing is there", readers(1).ask(0, 63, 65535), 0);
        CavershamShift first = Edge.desks(3, 0, 0);
        first.reader(0, 0);
        for (int i = 0; i < 3; i++) {
            first.talk(i, 0, i, 300, i == 0 ? 5 : 6, 0);
        }
        first.pass(1);
        Checks.due("talk 0 waits", first.ask(0, 63, 65535), 1);
        Checks.due("talk 0 waits, by its land", first.ask(0, 1, 1), 1);
        Document.sentence("Promise 11", "Throws `IndexOutOfBoundsException` if there is no such READER");
        noSuch(() -> readers(2), 2, (z, a) -> z.ask(a[0], 1, 1));
        noSuch(() -> readers(0), 0, (z, a) -> z.ask(a[0], 1, 1));
        noSuch(() -> readers(4), 4, (z, a) -> z.ask(a[0], 1, 1));
        Document.sentence("Promise 11", "if lands is not 0 to 63, or topics not 0 to 65535");
        Edge.range(PromiseEdgeTest::waiting, Edge.ARGUMENT, new int[] {0, 5, 5}, 1, 0, 63, (z, a) -> z.ask(a[0], a[1], a[2]));
        Edge.range(PromiseEdgeTest::waiting, Edge.ARGUMENT, new int[] {0, 5, 5}, 2, 0, 65535, (z, a) -> z.ask(a[0], a[1], a[2]));
    }

    private static void partner() {
        Document.sentence("Promise 12", "Tells the LANDS of the PARTNER.");
        CavershamShift x = new CavershamShift();
        x.station(10, 9, 0, 5, 0, ALL_DAY);
        x.monitor(9);
        Edge.sit(x, 0, 2);
        int[] lands = {31, 32, 0};
        int[] due = {1, 3, 1};
        for (int hour = 0; hour < 3; hour++) {
            x.partner(lands[hour]);
            x.talk(0, hour, 0, 10, 5, 0);
            x.pass(1);
        }
        for (int talk = 0; talk < 3; talk++) {
            Checks.due("with lands " + lands[talk], x.ofReport(talk, 5), due[talk]);
        }
        Document.sentence("Promise 12", "Returns that before.");
        CavershamShift y = new CavershamShift();
        Checks.due("at first", y.partner(63), 0);
        Checks.due("all", y.partner(0), 63);
        Checks.due("none", y.partner(32), 0);
        Checks.due("the same again", y.partner(32), 32);
        Document.sentence("Promise 12", "Throws `IllegalArgumentException` if lands is not 0 to 63");
        Edge.range(PromiseEdgeTest::waiting, Edge.ARGUMENT, new int[] {5}, 0, 0, 63, (z, a) -> z.partner(a[0]));
    }

    private static void pass() {
        Document.sentence("Promise 13", "Lets HOURS go by, one by one.");
        CavershamShift x = waiting();
        CavershamShift twin = waiting();
        x.pass(48);
        for (int i = 0; i < 48; i++) {
            twin.pass(1);
        }
        Checks.due("48 at once are 48 times 1", x.digest(), twin.digest());
        Document.sentence("Promise 13", "Returns HOUR then.");
        CavershamShift y = new CavershamShift();
        Checks.due("pass(1)", y.pass(1), 1);
        Checks.due("pass(48)", y.pass(48), 49);
        Checks.due("pass(23)", y.pass(23), 72);
        Checks.due("the last hour", Edge.passTo(y, 719).pass(1), 720);
        Checks.due("the last 48", Edge.passTo(new CavershamShift(), 672).pass(48), 720);
        Document.sentence("Promise 13", "Throws `IllegalArgumentException` if hours is not 1 to 48");
        Edge.range(PromiseEdgeTest::waiting, Edge.ARGUMENT, new int[] {5}, 0, 1, 48, (z, a) -> z.pass(a[0]));
        Document.sentence("Promise 13", "Throws `IllegalStateException` if HOUR would be above 720");
        Edge.refused(() -> Edge.passTo(Edge.post(), 720), "one above", Edge.STATE, z -> z.pass(1));
        Edge.refused(() -> Edge.passTo(Edge.post(), 720), "48 above", Edge.STATE, z -> z.pass(48));
        Edge.refused(() -> Edge.passTo(Edge.post(), 719), "one above", Edge.STATE, z -> z.pass(2));
        Edge.refused(() -> Edge.passTo(Edge.post(), 673), "one above", Edge.STATE, z -> z.pass(48));
        Edge.let(() -> Edge.passTo(Edge.post(), 673), "none above", z -> z.pass(47));
        Edge.refused(() -> Edge.passTo(Edge.post(), 720), "too many", Edge.ARGUMENT, z -> z.pass(49));
        Edge.refused(() -> Edge.passTo(Edge.post(), 720), "too few", Edge.ARGUMENT, z -> z.pass(0));
    }

    private static void call() {
        Document.sentence("Promise 14", "Calls the SWITCHBOARD.");
        CavershamShift x = new CavershamShift();
        x.call();
        Checks.due("refused", x.desk(18), 1);
        Document.sentence("Promise 14", "Returns how many were REFUSED ever, with this.");
        CavershamShift y = new CavershamShift();
        for (int i = 1; i <= 500; i++) {
            Checks.due("call()", y.call(), i);
        }
        y.pass(48);
        Checks.due("days later", y.call(), 501);
    }

    // ---- what is asked.

    private static void ofStation() {
        Document.sentence("Promise 15", "Returns that.");
        CavershamShift x = talks(3);
        x.shift(101 % 24, 0, 0, 0);
        int[] now = {10, 9, 0, 0, 0, 1, 90, 3, 0};
        facts(now, what -> x.ofStation(0, what));
        Edge.passTo(x, 102);
        now[8] = 1;
        facts(now, what -> x.ofStation(0, what));
        Edge.passTo(x, 119);
        now[5] = 0;
        now[6] = 0;
        facts(now, what -> x.ofStation(0, what));
        Edge.passTo(x, 720);
        now[5] = 1;
        now[6] = 90;
        facts(now, what -> x.ofStation(0, what));
        CavershamShift both = Edge.desks(2, 0, 1);
        both.talk(0, 0, 0, 10, 0, 0);
        both.talk(1, 0, 0, 10, 0, 0);
        both.talk(1, 1, 0, 10, 9, 0);
        both.talk(1, 2, 0, 10, 9, 0);
        Edge.passTo(both, 3);
        facts(new int[] {10, 9, 0, 0, 0, 1, 90, 1, 1}, what -> both.ofStation(0, what));
        facts(new int[] {30, 9, 0, 1, 0, 1, 90, 3, 2}, what -> both.ofStation(1, what));
        Document.sentence("Promise 15", "Throws `IndexOutOfBoundsException` if there is no such STATION");
        noSuch(() -> stations(2), 2, (y, a) -> y.ofStation(a[0], 0));
        noSuch(CavershamShift::new, 0, (y, a) -> y.ofStation(a[0], 0));
        noSuch(() -> stations(8), 8, (y, a) -> y.ofStation(a[0], 8));
        Document.sentence("Promise 15", "Throws `IllegalArgumentException` if what is not 0 to 8");
        Edge.range(() -> stations(2), Edge.ARGUMENT, new int[] {1, 0}, 1, 0, 8, (y, a) -> y.ofStation(a[0], a[1]));
    }

    private interface Fact {
        int of(int what);
    }

    private static void facts(int[] due, Fact fact) {
        for (int what = 0; what < due.length; what++) {
            Checks.due("fact " + what, fact.of(what), due[what]);
        }
    }

    private static void comes() {
        Document.sentence("Promise 16", "Returns COMES of it then, by all as it is now.");
        CavershamShift x = talks(0);
        Checks.due("the first hour", x.comes(0, 0), 90);
        Checks.due("the last on the air", x.comes(0, 22), 90);
        Checks.due("the last hour", x.comes(0, 23), 0);
        x.pass(48);
        x.jammer(11, 9);
        Checks.due("an hour that is over, under a jammer of now", x.comes(0, 0), 18);
        x.jam(0, 1);
        Checks.due("as it is turned now", x.comes(0, 22), 82);
        Document.sentence("Promise 16", "if there is no such STATION, or hour is not 0 to 23");
        noSuch(() -> stations(2), 2, (y, a) -> y.comes(a[0], 0));
        noSuch(CavershamShift::new, 0, (y, a) -> y.comes(a[0], 0));
        Edge.range(() -> stations(2), Edge.BOUNDS, new int[] {1, 5}, 1, 0, 23, (y, a) -> y.comes(a[0], a[1]));
    }

    private static void ofMonitor() {
        Document.sentence("Promise 17", "Returns that.");
        CavershamShift x = Edge.desks(1, 23, 23);
        x.monitor(54321);
        x.shift(0, 2, 0, 1);
        x.shift(22, 1, 0, 1);
        x.talk(0, 0, 0, 10, 0, 0);
        x.talk(0, 23, 0, 10, 0, 0);
        facts(new int[] {1, 2, 3, 4, 5, 0, 0, 0, 2}, what -> x.ofMonitor(1, what));
        x.pass(1);
        facts(new int[] {1, 2, 3, 4, 5, 3, 1, 1, NONE}, what -> x.ofMonitor(1, what));
        x.pass(22);
        facts(new int[] {1, 2, 3, 4, 5, 3, 2, 1, NONE}, what -> x.ofMonitor(1, what));
        facts(new int[] {9, 9, 9, 9, 9, 0, 0, 0, 0}, what -> x.ofMonitor(0, what));
        x.pass(1);
        facts(new int[] {1, 2, 3, 4, 5, 1, 2, 1, 2}, what -> x.ofMonitor(1, what));
        facts(new int[] {9, 9, 9, 9, 9, 3, 1, 1, NONE}, what -> x.ofMonitor(0, what));
        Document.sentence("Promise 17", "Throws `IndexOutOfBoundsException` if there is no such MONITOR");
        noSuch(() -> monitors(2), 2, (y, a) -> y.ofMonitor(a[0], 0));
        noSuch(() -> monitors(0), 0, (y, a) -> y.ofMonitor(a[0], 0));
        noSuch(() -> monitors(5), 5, (y, a) -> y.ofMonitor(a[0], 8));
        Document.sentence("Promise 17", "Throws `IllegalArgumentException` if what is not 0 to 8");
        Edge.range(() -> monitors(2), Edge.ARGUMENT, new int[] {1, 0}, 1, 0, 8, (y, a) -> y.ofMonitor(a[0], a[1]));
    }

    private static void sits() {
        Document.sentence("Promise 18", "Returns that by the SHIFT (NONE).");
        CavershamShift x = monitors(2);
        x.shift(0, 0, 1, 0);
        x.shift(23, 2, 0, 1);
        int[][] due = {{0, 0, 1, 0}, {23, 2, 0, 1}, {0, 2, NONE, NONE}, {23, 0, NONE, NONE}, {22, 2, NONE, NONE}, {1, 0, NONE, NONE}};
        for (int[] d : due) {
            Checks.due("the station in " + d[0] + " at " + d[1], x.sits(d[0], d[1], false), d[2]);
            Checks.due("the monitor in " + d[0] + " at " + d[1], x.sits(d[0], d[1], true), d[3]);
        }
        Document.sentence("Promise 18", "if hour is not 0 to 23, or set not 0 to 2");
        for (int is = 0; is < 2; is++) {
            boolean isMonitor = is == 1;
            Edge.Call call = (y, a) -> y.sits(a[0], a[1], isMonitor);
            Edge.range(() -> monitors(2), Edge.BOUNDS, new int[] {5, 1}, 0, 0, 23, call);
            Edge.range(() -> monitors(2), Edge.BOUNDS, new int[] {5, 1}, 1, 0, 2, call);
        }
    }

    private static void quality() {
        Document.sentence("Promise 19", "Returns QUALITY of that one for it then, by all as it is now.");
        CavershamShift x = talks(0);
        x.monitor(0);
        Checks.due("the first hour", x.quality(0, 0, 0), 18);
        Checks.due("off the air", x.quality(0, 0, 23), 0);
        Checks.due("skill 0", x.quality(1, 0, 0), 0);
        Edge.sit(x, 0, 1);
        x.pass(2);
        Checks.due("an hour that is over, by a weary of now", x.quality(0, 0, 0), 17);
        Checks.due("an hour to come, by a weary of now", x.quality(0, 0, 22), 17);
        Document.sentence("Promise 19", "if there is no such MONITOR, or STATION, or hour is not 0 to 23");
        noSuch(() -> monitors(3), 3, (y, a) -> y.quality(a[0], 0, 0));
        noSuch(() -> monitors(3), 2, (y, a) -> y.quality(0, a[0], 0));
        noSuch(() -> monitors(0), 0, (y, a) -> y.quality(a[0], 0, 0));
        noSuch(CavershamShift::new, 0, (y, a) -> y.quality(0, a[0], 0));
        Edge.range(() -> monitors(2), Edge.BOUNDS, new int[] {1, 1, 5}, 2, 0, 23, (y, a) -> y.quality(a[0], a[1], a[2]));
    }

    private static void ofTalk() {
        Document.sentence("Promise 20", "Returns that.");
        CavershamShift x = Edge.desks(2, 719 % 24, 719 % 24);
        x.shift(23, 0, NONE, NONE);
        x.talk(0, 719, 15, 300, 9, 65535);
        x.talk(1, 719, 0, 1, 0, 0);
        x.print(1, 0);
        Edge.passTo(x, 719);
        facts(new int[] {0, 719, 15, 300, 9, 65535, NONE, 0}, what -> x.ofTalk(0, what));
        facts(new int[] {1, 719, 0, 1, 0, 0, 0, 0}, what -> x.ofTalk(1, what));
        x.print(0, 65535);
        x.pass(1);
        facts(new int[] {0, 719, 15, 300, 9, 65535, 65535, 1}, what -> x.ofTalk(0, what));
        facts(new int[] {1, 719, 0, 1, 0, 0, 0, 2}, what -> x.ofTalk(1, what));
        Document.sentence("Promise 20", "Throws `IndexOutOfBoundsException` if there is no such TALK");
        noSuch(() -> talks(2), 2, (y, a) -> y.ofTalk(a[0], 0));
        noSuch(() -> talks(0), 0, (y, a) -> y.ofTalk(a[0], 0));
        noSuch(() -> talks(40), 40, (y, a) -> y.ofTalk(a[0], 7));
        Document.sentence("Promise 20", "Throws `IllegalArgumentException` if what is not 0 to 7");
        Edge.range(() -> talks(2), Edge.ARGUMENT, new int[] {1, 0}, 1, 0, 7, (y, a) -> y.ofTalk(a[0], a[1]));
    }

    private static void ofReport() {
        Document.sentence("Promise 21", "Returns that of its REPORT; -2 without one.");
        CavershamShift x = talks(1);
        for (int hour : new int[] {0, 100, 101}) {
            Edge.passTo(x, hour);
            for (int what = 0; what < 12; what++) {
                Checks.due("fact " + what + " without one in hour " + hour, x.ofReport(0, what), -2);
            }
        }
        CavershamShift y = Edge.postOf(2);
        y.shift(719 % 24, 2, 0, 0);
        y.talk(0, 719, 0, 300, 8, 65535);
        Edge.passTo(y, 720);
        facts(new int[] {3, 20, 33, 3, 3, 1, 719, 2, 0, 2, 0, 0}, what -> y.ofReport(0, what));
        y.print(0, 4);
        facts(new int[] {3, 20, 33, 3, 3, 1, 719, 2, 0, 2, 1, 1}, what -> y.ofReport(0, what));
        howItStands();
        Document.sentence("Promise 21", "Throws `IndexOutOfBoundsException` if there is no such TALK");
        noSuch(() -> talks(2), 2, (z, a) -> z.ofReport(a[0], 0));
        noSuch(() -> talks(0), 0, (z, a) -> z.ofReport(a[0], 0));
        noSuch(() -> talks(40), 40, (z, a) -> z.ofReport(a[0], 11));
        Document.sentence("Promise 21", "Throws `IllegalArgumentException` if what is not 0 to 11");
        Edge.range(() -> talks(2), Edge.ARGUMENT, new int[] {1, 0}, 1, 0, 11, (z, a) -> z.ofReport(a[0], a[1]));
        Edge.range(PromiseEdgeTest::waiting, Edge.ARGUMENT, new int[] {1, 0}, 1, 0, 11, (z, a) -> z.ofReport(a[0], a[1]));
    }

    private static void howItStands() {
        CavershamShift x = waiting();
        facts(new int[] {2, 300, 300, 3, NONE, 1, 0, 0, 0, 18, 0, 0}, what -> x.ofReport(0, what));
        facts(new int[] {0, 0, 300, 3, NONE, 4, NONE, 0, 0, 18, 0, 0}, what -> x.ofReport(2, what));
        facts(new int[] {2, 300, 300, 3, NONE, 0, NONE, 1, 1, 18, 0, 0}, what -> x.ofReport(3, what));
        facts(new int[] {3, 20, 300, 3, NONE, 0, NONE, 2, 2, 18, 0, 0}, what -> x.ofReport(4, what));
        x.print(0, 4);
        Checks.due("its correction waits", x.ofReport(0, 11), 1);
        Edge.passTo(x, 25);
        Checks.due("its correction is sent", x.ofReport(0, 11), 2);
        Checks.due("still in error", x.ofReport(0, 10), 1);
        Checks.due("sent in hour 24", x.ofReport(4, 6), 24);
        CavershamShift given = Edge.desks(1, 0, 0);
        given.partner(1);
        given.talk(0, 0, 0, 15, 3, 0);
        given.pass(1);
        facts(new int[] {1, 3, 15, 0, NONE, 3, NONE, 0, 0, 18, 0, 0}, what -> given.ofReport(0, what));
    }

    private static void got() {
        Document.sentence("Promise 22", "Returns 0 has nothing of it, 1 its REPORT, 2 its CORRECTION, too.");
        CavershamShift x = waiting();
        x.reader(63, 65535);
        x.ask(0, 63, 65535);
        Checks.due("sent ahead of its asking", x.got(0, 0), 0);
        Checks.due("dropped", x.got(0, 2), 0);
        Checks.due("it waits", x.got(0, 4), 0);
        x.talk(0, 30, 0, 1, 9, 0);
        Checks.due("to come", x.got(1, 5), 0);
        Edge.passTo(x, 25);
        Checks.due("sent", x.got(0, 4), 1);
        Checks.due("sent", x.got(1, 4), 1);
        x.print(4, 4);
        Checks.due("its correction waits", x.got(1, 4), 1);
        x.pass(1);
        Checks.due("its correction is sent", x.got(1, 4), 2);
        Document.sentence("Promise 22", "Throws `IndexOutOfBoundsException` if there is no such READER, or TALK");
        noSuch(PromiseEdgeTest::waiting, 1, (y, a) -> y.got(a[0], 0));
        noSuch(PromiseEdgeTest::waiting, 5, (y, a) -> y.got(0, a[0]));
        noSuch(() -> readers(4), 0, (y, a) -> y.got(0, a[0]));
        noSuch(() -> talks(1), 0, (y, a) -> y.got(a[0], 0));
        Edge.refused(CavershamShift::new, "neither", Edge.BOUNDS, y -> y.got(0, 0));
    }

    private static void ofReader() {
        Document.sentence("Promise 23", "Returns that.");
        CavershamShift x = Edge.desks(2, 0, 1);
        x.reader(1, 65535);
        x.reader(0, 0);
        for (int hour = 0; hour < 2; hour++) {
            x.talk(0, hour, hour, 250, 5, 1);
            x.talk(1, hour, hour, 40, 5, 1);
        }
        facts(new int[] {1, 65535, 0, 0, 0}, what -> x.ofReader(0, what));
        x.pass(2);
        facts(new int[] {1, 65535, 2, 0, 0}, what -> x.ofReader(0, what));
        x.print(0, 2);
        x.print(1, 2);
        x.print(2, 1);
        facts(new int[] {1, 65535, 2, 0, 1}, what -> x.ofReader(0, what));
        x.pass(1);
        facts(new int[] {1, 65535, 2, 1, 0}, what -> x.ofReader(0, what));
        facts(new int[] {0, 0, 0, 0, 0}, what -> x.ofReader(1, what));
        Document.sentence("Promise 23", "Throws `IndexOutOfBoundsException` if there is no such READER");
        noSuch(() -> readers(2), 2, (y, a) -> y.ofReader(a[0], 0));
        noSuch(() -> readers(0), 0, (y, a) -> y.ofReader(a[0], 0));
        noSuch(() -> readers(4), 4, (y, a) -> y.ofReader(a[0], 4));
        Document.sentence("Promise 23", "Throws `IllegalArgumentException` if what is not 0 to 4");
        Edge.range(() -> readers(2), Edge.ARGUMENT, new int[] {1, 0}, 1, 0, 4, (y, a) -> y.ofReader(a[0], a[1]));
    }

    private static void used() {
        Document.sentence("Promise 24", "Returns how often it was USED.");
        CavershamShift x = Edge.desks(1, 23, 23);
        x.talk(0, 23, 0, 10, 0, 32769);
        x.talk(0, 719, 0, 10, 9, 1);
        Edge.passTo(x, 23);
        Checks.due("to come", x.used(0, 0, 0, 29), 0);
        Edge.passTo(x, 720);
        int[][] due = {{0, 0, 29, 2}, {0, 0, 0, 1}, {0, 1, 28, 0}, {0, 29, 29, 1}, {0, 1, 29, 1}, {0, 29, 0, 0}, {0, 30, 30, 0},
            {0, LEAST, MOST, 2}, {0, LEAST, -1, 0}, {0, MOST, LEAST, 0}, {0, -5, 0, 1}, {0, LEAST, LEAST, 0}, {0, MOST, MOST, 0},
            {15, 0, 29, 1}, {14, 0, 29, 0}};
        for (int[] d : due) {
            Checks.due("formula " + d[0] + " from " + d[1] + " to " + d[2], x.used(0, d[0], d[1], d[2]), d[3]);
        }
        Document.sentence("Promise 24", "if land is not 0 to 5, or formula not 0 to 15");
        Edge.Call call = (y, a) -> y.used(a[0], a[1], a[2], a[3]);
        Edge.range(PromiseEdgeTest::waiting, Edge.BOUNDS, new int[] {1, 1, 0, 0}, 0, 0, 5, call);
        Edge.range(PromiseEdgeTest::waiting, Edge.BOUNDS, new int[] {1, 1, 0, 0}, 1, 0, 15, call);
        Edge.range(PromiseEdgeTest::waiting, Edge.BOUNDS, new int[] {1, 1, 1, 0}, 1, 0, 15, call);
        Edge.let(PromiseEdgeTest::waiting, "any days", y -> y.used(0, 0, LEAST, MOST));
        Edge.let(PromiseEdgeTest::waiting, "no days", y -> y.used(0, 0, MOST, LEAST));
    }

    private static void gone() {
        Document.sentence("Promise 25", "Returns the set of FORMULAS that are GONE from it.");
        CavershamShift x = new CavershamShift();
        x.station(10, 9, 0, 5, 0, ALL_DAY);
        x.monitor(9);
        Edge.sit(x, 0, 3);
        int[] hours = {0, 1, 2, 72, 73};
        int[] formulas = {32771, 32769, 32771, 0, 2};
        for (int i = 0; i < 5; i++) {
            x.talk(0, hours[i], 0, 10, 0, formulas[i]);
        }
        Edge.passTo(x, 73);
        Checks.due("one report of late", x.gone(5), 0);
        x.pass(1);
        Checks.due("formulas 0 and 15 are gone, 1 was used but twice", x.gone(5), 32769);
        Checks.due("another land", x.gone(0), 0);
        Edge.passTo(x, 143);
        Checks.due("on day 5", x.gone(5), 32769);
        x.pass(1);
        Checks.due("no report of late on day 6", x.gone(5), 0);
        Document.sentence("Promise 25", "Throws `IndexOutOfBoundsException` if land is not 0 to 5");
        Edge.range(PromiseEdgeTest::waiting, Edge.BOUNDS, new int[] {1}, 0, 0, 5, (y, a) -> y.gone(a[0]));
    }

    private static void first() {
        Document.sentence("Promise 26", "(of several in one HOUR the one that was sent ahead of the others); NONE without any");
        CavershamShift x = Edge.desks(3, 0, 1);
        x.partner(4);
        x.talk(1, 1, 0, 10, 5, 0);
        x.talk(0, 1, 0, 10, 9, 0);
        x.talk(0, 0, 15, 10, 2, 0);
        x.talk(2, 0, 14, 10, 5, 0);
        x.talk(2, 1, 0, 10, 5, 0);
        x.talk(0, 24, 0, 10, 9, 0);
        Checks.due("to come", x.first(0), NONE);
        x.pass(1);
        Checks.due("dropped", x.first(15), NONE);
        Checks.due("given", x.first(14), NONE);
        x.pass(1);
        Checks.due("sent ahead in one hour", x.first(0), 1);
        Edge.passTo(x, 25);
        Checks.due("behind a later one", x.first(0), 1);
        CavershamShift y = waiting();
        Checks.due("the last topic, it waits", y.first(15), NONE);
        Checks.due("the talk of topic 0", y.first(0), 0);
        Edge.passTo(y, 25);
        Checks.due("the last topic, sent", y.first(15), 4);
        Checks.due("of two hours", y.first(14), 1);
        Document.sentence("Promise 26", "Throws `IndexOutOfBoundsException` if topic is not 0 to 15");
        Edge.range(PromiseEdgeTest::waiting, Edge.BOUNDS, new int[] {1}, 0, 0, 15, (z, a) -> z.first(a[0]));
    }

    private static void clarity() {
        Document.sentence("Promise 27", "Returns the mean QUALITY of all REPORTS of its STATIONS, as a double (0.0 without any).");
        CavershamShift x = new CavershamShift();
        x.station(10, 9, 0, 5, 0, ALL_DAY);
        x.station(30, 5, 0, 5, 0, ALL_DAY);
        x.monitor(9);
        x.monitor(9);
        x.monitor(8);
        x.partner(32);
        x.shift(0, 0, 0, 0);
        x.shift(0, 1, 1, 1);
        x.shift(1, 1, 0, 2);
        Checks.due("without any", x.clarity(5), 0.0);
        x.talk(0, 0, 0, 10, 0, 0);
        x.talk(1, 0, 0, 10, 4, 0);
        x.talk(0, 1, 0, 10, 9, 0);
        x.talk(1, 1, 0, 10, 9, 0);
        Checks.due("to come", x.clarity(5), 0.0);
        x.pass(1);
        Checks.due("dropped and given ones, too", x.clarity(5), 16.0);
        x.pass(1);
        Checks.due("not cut", x.clarity(5), 49.0 / 3.0);
        Checks.due("another land", x.clarity(0), 0.0);
        Checks.due("the least", heardByOne(3).clarity(0), 1.0);
        Document.sentence("Promise 27", "Throws `IndexOutOfBoundsException` if land is not 0 to 5");
        Edge.range(PromiseEdgeTest::waiting, Edge.BOUNDS, new int[] {1}, 0, 0, 5, (y, a) -> y.clarity(a[0]));
    }

    /** In hour 2 a talk is heard with quality 1; HOUR then. */
    private static CavershamShift heardByOne(int hour) {
        CavershamShift x = Edge.postOf(2);
        Edge.sit(x, 0, 2);
        x.talk(0, 2, 0, 300, 9, 3);
        return Edge.passTo(x, hour);
    }

    private static void desk() {
        Document.sentence("Promise 28", "Returns that.");
        CavershamShift x = waiting();
        facts(new int[] {2, 0, 2, 3, 0, 3, 5, 5, 2, 2, 0, 0, 1, 0, 0, 0, 1, 0, 0}, x::desk);
        x.print(0, 4);
        x.print(1, 4);
        x.jammer(0, 0);
        x.partner(63);
        x.call();
        facts(new int[] {2, 0, 2, 3, 1, 3, 5, 5, 2, 2, 0, 0, 1, 0, 2, 0, 1, 63, 1}, x::desk);
        Edge.passTo(x, 24);
        facts(new int[] {24, 1, 0, 3, 1, 3, 5, 5, 2, 2, 0, 0, 1, 600, 2, 0, 1, 63, 1}, x::desk);
        x.pass(1);
        facts(new int[] {25, 1, 1, 3, 1, 3, 5, 5, 0, 4, 0, 0, 1, 260, 0, 2, 1, 63, 1}, x::desk);
        Edge.passTo(x, 720);
        facts(new int[] {720, 30, 0, 3, 1, 3, 5, 5, 0, 4, 0, 0, 1, 600, 0, 2, 1, 63, 1}, x::desk);
        Document.sentence("Promise 28", "Throws `IllegalArgumentException` if what is not 0 to 18");
        Edge.range(PromiseEdgeTest::waiting, Edge.ARGUMENT, new int[] {1}, 0, 0, 18, (y, a) -> y.desk(a[0]));
        fullDesk();
    }

    private static void fullDesk() {
        CavershamShift full = stations(8);
        for (int i = 0; i < 6; i++) {
            full.jammer(0, 0);
        }
        for (int i = 0; i < 5; i++) {
            full.monitor(0);
        }
        for (int i = 0; i < 4; i++) {
            full.reader(0, 0);
        }
        for (int i = 0; i < 40; i++) {
            full.talk(i / 5, i % 5, 0, 1, 0, 0);
        }
        facts(new int[] {0, 0, 0, 8, 6, 5, 40, 0, 0, 0, 0, 0, 0, 600, 0, 0, 4, 0, 0}, full::desk);
    }

    private static void tell() {
        Document.sentence("Promise 29", "then \", to come\", \", missed\" (over, without a REPORT), or \", \" and the SORT as a word");
        CavershamShift x = waiting();
        x.talk(0, 719, 0, 1, 0, 0);
        x.talk(1, 2, 0, 1, 0, 0);
        Checks.due("tell(0)", x.tell(0), "0: 0 at 0, text sent");
        Checks.due("tell(2)", x.tell(2), "2: 0 at 1, dropped");
        Checks.due("tell(3)", x.tell(3), "3: 1 at 1, text");
        Checks.due("tell(4)", x.tell(4), "4: 2 at 1, flash");
        Checks.due("tell(5)", x.tell(5), "5: 0 at 719, to come");
        Checks.due("in its hour", x.tell(6), "6: 1 at 2, to come");
        x.pass(1);
        Checks.due("just over", x.tell(6), "6: 1 at 2, missed");
        Edge.passTo(x, 719);
        Checks.due("tell(4)", x.tell(4), "4: 2 at 1, flash sent");
        Checks.due("in the last hour", x.tell(5), "5: 0 at 719, to come");
        x.pass(1);
        Checks.due("at the end", x.tell(5), "5: 0 at 719, missed");
        tellOthers();
        Document.sentence("Promise 29", "Throws `IndexOutOfBoundsException` if there is no such TALK");
        noSuch(() -> talks(2), 2, (y, a) -> y.tell(a[0]));
        noSuch(() -> talks(0), 0, (y, a) -> y.tell(a[0]));
        noSuch(() -> talks(40), 40, (y, a) -> y.tell(a[0]));
    }

    private static void tellOthers() {
        Document.sentence("Promise 29", "and behind one that is sent, STALE or GIVEN \" sent\", \" stale\" or \" given\"");
        CavershamShift x = Edge.desks(3, 0, 1);
        x.partner(4);
        x.talk(0, 0, 0, 300, 5, 0);
        x.talk(1, 0, 0, 300, 5, 0);
        x.talk(2, 0, 0, 300, 5, 0);
        x.talk(0, 1, 0, 300, 3, 0);
        x.talk(1, 1, 0, 300, 4, 0);
        x.talk(2, 1, 0, 300, 3, 0);
        x.talk(0, 24, 0, 300, 6, 0);
        x.talk(1, 24, 0, 300, 6, 0);
        x.talk(0, 25, 0, 10, 2, 0);
        Edge.passTo(x, 24);
        Checks.due("tell(2)", x.tell(2), "2: 2 at 0, text given");
        Checks.due("tell(3)", x.tell(3), "3: 0 at 1, summary");
        Checks.due("tell(5)", x.tell(5), "5: 2 at 1, summary given");
        x.pass(2);
        Checks.due("tell(1)", x.tell(1), "1: 1 at 0, text sent");
        Checks.due("tell(3)", x.tell(3), "3: 0 at 1, summary stale");
        Checks.due("tell(4)", x.tell(4), "4: 1 at 1, summary stale");
        Checks.due("tell(6)", x.tell(6), "6: 0 at 24, text sent");
        Checks.due("tell(8)", x.tell(8), "8: 0 at 25, dropped");
        CavershamShift y = Edge.desks(3, 0, 23);
        for (int i = 0; i < 40; i++) {
            y.talk(i % 3, 10 + i / 3, 0, 300, i == 39 ? 9 : 8, 0);
        }
        Edge.passTo(y, 24);
        Checks.due("tell(39)", y.tell(39), "39: 0 at 23, flash");
        y.pass(1);
        Checks.due("tell(39)", y.tell(39), "39: 0 at 23, flash sent");
    }

    // ---- what would be (nothing is changed).

    private static void best() {
        Document.sentence("Promise 30", "Returns the greatest sum of QUALITY of all SETS that any SHIFT could have in it");
        int[][] due = {{0, 0, 0}, {1, 0, 0}, {0, 1, 0}, {1, 1, 18}, {1, 2, 18}, {2, 1, 18}, {2, 2, 36}, {3, 3, 54}, {4, 3, 54},
            {3, 4, 54}, {8, 5, 54}, {8, 2, 36}, {2, 5, 36}};
        for (int[] d : due) {
            CavershamShift x = new CavershamShift();
            for (int i = 0; i < d[0]; i++) {
                x.station(10 * i, 9, 0, 0, 0, ALL_DAY);
            }
            for (int i = 0; i < d[1]; i++) {
                x.monitor(9);
            }
            Checks.due(d[0] + " stations, " + d[1] + " monitors in hour 0", x.best(0), d[2]);
            Checks.due(d[0] + " stations, " + d[1] + " monitors in hour 23", x.best(23), d[2]);
        }
        CavershamShift x = crossed();
        Checks.due("not the greatest first", x.best(0), 16 + 16);
        x.pass(1);
        Checks.due("it is no shift", x.sits(0, 0, true), NONE);
        Document.sentence("Promise 30", "by all as it is now");
        Edge.sit(x, 1, 3);
        Edge.passTo(x, 4);
        Checks.due("in an hour that is over, by a weary of now", x.best(0), 16 + 14);
        Checks.due("by a quality of 1", heardByOne(2).best(0), 1);
        Checks.due("by a quality of 0", heardByOne(3).best(0), 0);
        Document.sentence("Promise 30", "Throws `IndexOutOfBoundsException` if hour is not 0 to 23");
        Edge.range(() -> monitors(2), Edge.BOUNDS, new int[] {1}, 0, 0, 23, (y, a) -> y.best(a[0]));
    }

    /** Monitor 0 hears station 0 with 18 and 1 with 16, monitor 1 hears 0 with 16 and 1 not at all. */
    private static CavershamShift crossed() {
        CavershamShift x = new CavershamShift();
        x.station(10, 9, 0, 0, 0, ALL_DAY);
        x.station(30, 9, 0, 0, 1, ALL_DAY);
        x.monitor(79);
        x.monitor(7);
        return x;
    }

    private static void bestAt() {
        Document.sentence("Promise 31", "that of the SHIFT by which best() comes about (NONE: nothing; a QUALITY of 0 counts as nothing)");
        bestShift(new CavershamShift(), 0, NONE, NONE, NONE, NONE, NONE, NONE);
        bestShift(stations(8), 23, NONE, NONE, NONE, NONE, NONE, NONE);
        bestShift(crossed(), 0, 0, 1, 1, 0, NONE, NONE);
        CavershamShift none = new CavershamShift();
        none.station(10, 1, 9, 0, 0, ALL_DAY);
        none.station(30, 9, 0, 0, 1, ALL_DAY);
        none.station(50, 9, 0, 0, 0, 2);
        none.monitor(9);
        bestShift(none, 0, NONE, NONE, NONE, NONE, NONE, NONE);
        bestShift(none, 1, 2, 0, NONE, NONE, NONE, NONE);
        bestShift(talks(0), 23, NONE, NONE, NONE, NONE, NONE, NONE);
        bestShift(heardByOne(2), 5, 0, 0, NONE, NONE, NONE, NONE);
        bestShift(heardByOne(3), 5, NONE, NONE, NONE, NONE, NONE, NONE);
        bestShift(talks(0), 22, 0, 0, NONE, NONE, NONE, NONE);
        Document.sentence("Promise 31", "of several the one with the smallest STATION at SET 0, then the smallest MONITOR there (nothing behind all)");
        CavershamShift same = new CavershamShift();
        for (int i = 0; i < 8; i++) {
            same.station(10 * i, 9, 0, 0, 0, ALL_DAY);
        }
        for (int i = 0; i < 5; i++) {
            same.monitor(9);
            int[] due = {0, 0, i >= 1 ? 1 : NONE, i >= 1 ? 1 : NONE, i >= 2 ? 2 : NONE, i >= 2 ? 2 : NONE};
            bestShift(same, 0, due);
            bestShift(same, 23, due);
        }
        same.drift(0, 11);
        bestShift(same, 12, 2, 0, 3, 1, 4, 2);
        same.shift(0, 0, 0, 0);
        same.pass(1);
        bestShift(same, 12, 2, 0, 3, 1, 4, 2);
        same.shift(1, 0, 0, 0);
        same.pass(1);
        bestShift(same, 12, 2, 1, 3, 2, 4, 3);
        likewise();
    }

    private static void likewise() {
        Document.sentence("Promise 31", "then likewise SET 1, SET 2");
        CavershamShift x = new CavershamShift();
        x.station(10, 9, 0, 0, 0, ALL_DAY);
        x.station(30, 9, 0, 0, 1, ALL_DAY);
        x.station(50, 9, 0, 0, 1, ALL_DAY);
        x.station(70, 9, 0, 0, 2, ALL_DAY);
        x.monitor(990);
        x.monitor(9);
        x.monitor(90);
        bestShift(x, 0, 0, 1, 1, 0, 2, 2);
        x.monitor(9);
        bestShift(x, 23, 0, 1, 1, 0, 2, 2);
        x.monitor(9000);
        bestShift(x, 23, 0, 1, 1, 0, 2, 2);
        CavershamShift y = new CavershamShift();
        y.station(10, 9, 0, 0, 0, ALL_DAY);
        y.station(30, 9, 0, 0, 1, ALL_DAY);
        y.station(50, 9, 0, 0, 2, ALL_DAY);
        y.monitor(9);
        y.monitor(90);
        y.monitor(9);
        y.monitor(900);
        bestShift(y, 0, 0, 0, 1, 1, 2, 3);
        Document.sentence("Promise 31", "if hour is not 0 to 23, or set not 0 to 2");
        for (int is = 0; is < 2; is++) {
            boolean isMonitor = is == 1;
            Edge.Call call = (z, a) -> z.bestAt(a[0], a[1], isMonitor);
            Edge.range(() -> monitors(2), Edge.BOUNDS, new int[] {5, 1}, 0, 0, 23, call);
            Edge.range(() -> monitors(2), Edge.BOUNDS, new int[] {5, 1}, 1, 0, 2, call);
        }
    }

    private static void bestShift(CavershamShift x, int hour, int... due) {
        int sum = 0;
        for (int set = 2; set >= 0; set--) {
            Checks.due("station at " + set + " in " + hour, x.bestAt(hour, set, false), due[2 * set]);
            Checks.due("monitor at " + set + " in " + hour, x.bestAt(hour, set, true), due[2 * set + 1]);
            sum += due[2 * set] == NONE ? 0 : x.quality(due[2 * set + 1], due[2 * set], hour);
        }
        Checks.due("the sum in " + hour, sum, x.best(hour));
    }

    private static void wouldHear() {
        Document.sentence("Promise 32", "Returns the QUALITY with which it would be heard, by the SHIFT and by all as it is now (0, if not).");
        CavershamShift x = Edge.desks(2, 23, 23);
        x.monitor(8);
        x.shift(23, 2, 0, 2);
        x.talk(0, 719, 0, 10, 0, 0);
        x.talk(0, 718, 0, 10, 0, 0);
        Checks.due("the greatest of two", x.wouldHear(0), 18);
        Checks.due("nobody sits", x.wouldHear(1), 0);
        x.shift(23, 0, NONE, NONE);
        Checks.due("the other", x.wouldHear(0), 17);
        x.shift(23, 2, NONE, NONE);
        Checks.due("nobody now", x.wouldHear(0), 0);
        x.shift(23, 0, 1, 0);
        Checks.due("at another station", x.wouldHear(0), 0);
        CavershamShift y = Edge.postOf(2);
        Edge.sit(y, 0, 3);
        y.talk(0, 3, 0, 10, 0, 0);
        int[] due = {2, 2, 1, 0};
        for (int hour = 0; hour < 4; hour++) {
            Checks.due("by a weary of hour " + hour, y.wouldHear(0), due[hour]);
            y.pass(1);
        }
        Document.sentence("Promise 32", "Throws `IndexOutOfBoundsException` if there is no such TALK");
        noSuch(() -> talks(2), 2, (z, a) -> z.wouldHear(a[0]));
        noSuch(() -> talks(0), 0, (z, a) -> z.wouldHear(a[0]));
        noSuch(() -> talks(40), 40, (z, a) -> z.wouldHear(a[0]));
        Document.sentence("Promise 32", "Throws `IllegalStateException` if it is over");
        Edge.let(() -> Edge.passTo(talks(1), 100), "in its hour", z -> z.wouldHear(0));
        Edge.refused(() -> Edge.passTo(talks(1), 101), "just over", Edge.STATE, z -> z.wouldHear(0));
        Edge.refused(() -> heard(18, 9, 0), "over, with a report", Edge.STATE, z -> z.wouldHear(0));
        Edge.refused(() -> Edge.passTo(talks(1), 720), "at the end", Edge.STATE, z -> z.wouldHear(0));
    }

    private static void wouldSend() {
        Document.sentence("Promise 33", "Returns how many REPORTS would be sent, if the HOUR was over now, but TALKS of this HOUR were left out (at HOUR 720, too).");
        CavershamShift x = waiting();
        Checks.due("no words", x.wouldSend(), 0);
        Edge.passTo(x, 23);
        Checks.due("in the last hour of the day", x.wouldSend(), 0);
        x.pass(1);
        x.talk(0, 24, 0, 10, 9, 0);
        Checks.due("as the day begins, without the talk of this hour", x.wouldSend(), 2);
        Checks.due("nothing is changed", x.wouldSend(), 2);
        x.pass(1);
        Checks.due("none waits", x.wouldSend(), 0);
        CavershamShift y = waiting();
        Edge.passTo(y, 24);
        y.print(0, 4);
        y.print(1, 4);
        Checks.due("behind two corrections", y.wouldSend(), 2);
        wouldSendWords();
        wouldSendStale();
        wouldSendAtTheEnd();
    }

    /** Three texts wait for the new day, and so many corrections go ahead of them. */
    private static void wouldSendWords() {
        int[][] due = {{100, 0, 3}, {101, 0, 2}, {90, 1, 3}, {91, 1, 2}, {80, 2, 3}, {81, 2, 2}, {300, 0, 2}};
        for (int[] d : due) {
            CavershamShift x = Edge.desks(3, 0, 1);
            x.talk(0, 0, 0, 300, 5, 0);
            x.talk(1, 0, 0, 300, 5, 0);
            x.talk(0, 1, 0, 300, 6, 0);
            x.talk(1, 1, 0, 200, 6, 0);
            x.talk(2, 1, 0, d[0], 5, 0);
            Edge.passTo(x, 24);
            for (int i = 0; i < d[1]; i++) {
                x.print(i, 1);
            }
            Checks.due(d[0] + " words behind " + d[1] + " corrections", x.wouldSend(), d[2]);
            x.pass(1);
            Checks.due("as it is", x.desk(9), 2 + d[2]);
        }
        CavershamShift empty = Edge.desks(3, 0, 2);
        empty.talk(0, 0, 0, 300, 5, 0);
        empty.talk(1, 0, 0, 300, 5, 0);
        empty.talk(2, 0, 0, 3, 3, 0);
        empty.pass(1);
        Checks.due("a summary of no words is sent", empty.ofReport(2, 5), 1);
    }

    private static void wouldSendStale() {
        CavershamShift x = Edge.desks(3, 0, 0);
        for (int i = 0; i < 3; i++) {
            x.talk(i, 0, 0, 300, 5, 0);
        }
        Edge.passTo(x, 24);
        Checks.due("one waits", x.desk(8), 1);
        Checks.due("it would be stale", x.wouldSend(), 0);
        CavershamShift y = Edge.desks(3, 1, 1);
        for (int i = 0; i < 3; i++) {
            y.talk(i, 1, 0, 300, 5, 0);
        }
        Edge.passTo(y, 24);
        Checks.due("it would not be stale yet", y.wouldSend(), 1);
    }

    private static void wouldSendAtTheEnd() {
        Document.sentence("Promise 33", "(at HOUR 720, too)");
        CavershamShift x = Edge.desks(3, 0, 0);
        for (int i = 0; i < 3; i++) {
            x.shift(23, i, i, i);
        }
        Edge.passTo(x, 696);
        for (int i = 0; i < 3; i++) {
            x.talk(i, 696, 0, 300, 5, 0);
            x.talk(i, 719, 0, 10, 9, 0);
        }
        Edge.passTo(x, 719);
        Checks.due("one waits", x.desk(8), 1);
        Checks.due("no words in the last hour", x.wouldSend(), 0);
        x.pass(1);
        Checks.due("four wait at the end", x.desk(8), 4);
        Checks.due("words at the end", x.desk(13), 600);
        Checks.due("all but that of hour 696, which would be stale", x.wouldSend(), 3);
        Checks.due("none is sent", x.desk(9), 2);
    }

    private static void isSound() {
        Document.sentence("Promise 34", "in no HOUR OF THE DAY a MONITOR sits at two SETS; REPORTS that WAIT, were sent, are STALE");
        CavershamShift x = waiting();
        Checks.due("with reports that wait, were sent and dropped", x.isSound(), true);
        x.print(0, 4);
        Checks.due("with a correction that waits", x.isSound(), true);
        x.partner(63);
        x.ask(0, 0, 0);
        Edge.passTo(x, 24);
        Checks.due("with all words left", x.isSound(), true);
        x.talk(0, 24, 0, 10, 5, 0);
        x.pass(1);
        Checks.due("with a correction that is sent, and a given report", x.isSound(), true);
        CavershamShift y = Edge.desks(3, 0, 0);
        for (int i = 0; i < 3; i++) {
            y.talk(i, 0, 0, 300, 5, 0);
        }
        y.pass(1);
        Checks.due("with no words left", y.desk(13), 0);
        Checks.due("with no words left", y.isSound(), true);
        y.pass(24);
        Checks.due("with a stale one", y.desk(10), 1);
        Checks.due("with a stale one", y.isSound(), true);
        Edge.passTo(y, 720);
        Checks.due("at the end", y.isSound(), true);
        CavershamShift z = monitors(2);
        z.shift(0, 0, 0, 0);
        Checks.thrownBy(() -> z.shift(0, 1, 1, 0));
        z.shift(1, 1, 1, 0);
        Checks.due("behind a shift that was refused", z.isSound(), true);
    }

    private static void digest() {
        Document.onlyTells("Promise 35", "Computes a checksum.");
        Document.sentence("Promise 35", "A number d starts with 58269; then d becomes d * 31 + v, which wraps around as a 64-bit integer");
        Edge.Build[] builds = {CavershamShift::new, PromiseEdgeTest::waiting, () -> talks(20), () -> stations(8), () -> monitors(5),
            PromiseEdgeTest::crossed, () -> Edge.passTo(waiting(), 25), () -> heardByOne(3),
            () -> Edge.passTo(Edge.desks(1, 0, 23), 720)};
        for (int i = 0; i < builds.length; i++) {
            BigInteger d = BigInteger.valueOf(58269);
            for (long v : values(builds[i].made())) {
                d = d.multiply(BigInteger.valueOf(31)).add(BigInteger.valueOf(v));
            }
            Checks.due("it wraps around", d.bitLength() > 64, true);
            Checks.due("post " + i, builds[i].made().digest(), d.longValue());
        }
        Document.sentence("Promise 35", "Returns d.");
        CavershamShift x = waiting();
        long before = x.digest();
        Checks.due("again", x.digest(), before);
        x.call();
        Checks.due("it tells what is changed", x.digest() == before, false);
    }

    /** The numbers that the digest is made of, each from a fresh look, in the document's order. */
    private static List<Long> values(CavershamShift x) {
        List<Long> v = new ArrayList<>();
        for (int what = 0; what <= 18; what++) {
            v.add((long) x.desk(what));
        }
        long stations = v.get(3);
        long monitors = v.get(5);
        long talks = v.get(6);
        int readers = (int) (long) v.get(16);
        int hour = (int) (long) v.get(2);
        for (int i = 0; i < 9 * stations; i++) {
            v.add((long) x.ofStation(i / 9, i % 9));
        }
        for (int i = 0; i < 9 * monitors; i++) {
            v.add((long) x.ofMonitor(i / 9, i % 9));
        }
        for (int i = 0; i < 6; i++) {
            v.add((long) x.bestAt(hour, i / 2, i % 2 == 1));
        }
        for (int talk = 0; talk < talks; talk++) {
            for (int i = 0; i < 20 + readers; i++) {
                v.add((long) (i < 8 ? x.ofTalk(talk, i) : i < 20 ? x.ofReport(talk, i - 8) : x.got(i - 20, talk)));
            }
        }
        for (int i = 0; i < 5 * readers; i++) {
            v.add((long) x.ofReader(i / 5, i % 5));
        }
        for (int land = 0; land < 6; land++) {
            v.add((long) x.gone(land));
            v.add((long) (64 * x.clarity(land)));
        }
        for (int topic = 0; topic < 16; topic++) {
            v.add((long) x.first(topic));
        }
        v.add((long) x.best(hour));
        v.add((long) x.wouldSend());
        v.add(x.isSound() ? 1L : 0L);
        return v;
    }
}
