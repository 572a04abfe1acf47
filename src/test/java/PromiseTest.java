/** For each promise of the document: ordinary inputs, the edges that it names, and wrong inputs. */
public final class PromiseTest {
    private static final int ALL_DAY = 16777215;
    private static final int NONE = -1;

    private PromiseTest() {
    }

    public static void main(String[] args) {
        newObject();
        station();
        drift();
        jammer();
        jam();
        monitor();
        shift();
        talk();
        print();
        printAndCorrections();
        reader();
        ask();
        partner();
        pass();
        wire();
        stale();
        call();
        ofStation();
        comes();
        ofMonitor();
        sits();
        quality();
        ofTalk();
        ofReport();
        mishearing();
        got();
        ofReader();
        used();
        gone();
        first();
        clarity();
        desk();
        tell();
        best();
        bestAt();
        wouldHear();
        wouldSend();
        isSound();
        digest();
        Checks.end("PromiseTest");
    }

    /** A station of land 0 and tongue 0 that comes with 90, and a monitor of full skill. */
    private static CavershamShift post() {
        CavershamShift x = new CavershamShift();
        x.station(10, 9, 0, 0, 0, ALL_DAY);
        x.monitor(99999);
        return x;
    }

    /** Monitor 0 hears station 0 at set 0 in each hour from one to another. */
    private static void sit(CavershamShift x, int from, int to) {
        for (int hour = from; hour <= to; hour++) {
            x.shift(hour, 0, 0, 0);
        }
    }

    private static void newObject() {
        Checks.part("promise 1");
        CavershamShift x = new CavershamShift();
        for (int what = 0; what <= 18; what++) {
            Checks.due("desk(" + what + ")", x.desk(what), what == 13 ? 600 : 0);
        }
        Checks.due("isSound()", x.isSound(), true);
        Checks.due("sits(23, 2, true)", x.sits(23, 2, true), NONE);
        Checks.outOfBounds(x, "ofStation(0, 0)", () -> x.ofStation(0, 0));
        Checks.outOfBounds(x, "ofMonitor(0, 0)", () -> x.ofMonitor(0, 0));
    }

    private static void station() {
        Checks.part("promise 2");
        CavershamShift x = new CavershamShift();
        Checks.due("station at the least", x.station(0, 1, 0, 0, 0, 0), 0);
        Checks.due("station at the most", x.station(99, 9, 9, 5, 4, ALL_DAY), 1);
        int[] bad = {-1, 100, 0, 10, -1, 10, -1, 6, -1, 5, -1, ALL_DAY + 1};
        for (int i = 0; i < bad.length; i++) {
            int[] a = {5, 5, 5, 3, 3, 7};
            a[i / 2] = bad[i];
            Checks.badArgument(x, "station with " + bad[i] + " as argument " + i / 2,
                    () -> x.station(a[0], a[1], a[2], a[3], a[4], a[5]));
        }
        for (int i = 2; i < 8; i++) {
            Checks.due("station " + i, x.station(50, 5, 5, 2, 1, 1), i);
        }
        Checks.badState(x, "station the ninth", () -> x.station(50, 5, 5, 2, 1, 1));
        Checks.badArgument(x, "station the ninth, wrong", () -> x.station(50, 5, 5, 2, 1, -1));
        Checks.due("desk(3)", x.desk(3), 8);
        Checks.due("ofStation(1, 4)", x.ofStation(1, 4), 4);
    }

    private static void drift() {
        Checks.part("promise 3");
        CavershamShift x = post();
        Checks.due("drift(0, 99)", x.drift(0, 99), 10);
        Checks.due("drift(0, 0)", x.drift(0, 0), 99);
        Checks.due("drift(0, 0)", x.drift(0, 0), 0);
        Checks.due("ofStation(0, 0)", x.ofStation(0, 0), 0);
        Checks.outOfBounds(x, "drift(1, 5)", () -> x.drift(1, 5));
        Checks.outOfBounds(x, "drift(-1, 500)", () -> x.drift(-1, 500));
        Checks.badArgument(x, "drift(0, 100)", () -> x.drift(0, 100));
        Checks.badArgument(x, "drift(0, -1)", () -> x.drift(0, -1));
    }

    private static void jammer() {
        Checks.part("promise 4");
        CavershamShift x = post();
        Checks.due("jammer(0, 0)", x.jammer(0, 0), 0);
        Checks.due("jammer(99, 9)", x.jammer(99, 9), 1);
        Checks.badArgument(x, "jammer(-1, 5)", () -> x.jammer(-1, 5));
        Checks.badArgument(x, "jammer(100, 5)", () -> x.jammer(100, 5));
        Checks.badArgument(x, "jammer(5, -1)", () -> x.jammer(5, -1));
        Checks.badArgument(x, "jammer(5, 10)", () -> x.jammer(5, 10));
        for (int i = 2; i < 6; i++) {
            Checks.due("jammer " + i, x.jammer(10, 1), i);
        }
        Checks.badState(x, "jammer the seventh", () -> x.jammer(10, 1));
        Checks.badArgument(x, "jammer the seventh, wrong", () -> x.jammer(10, 10));
        Checks.due("comes under four of 1", x.comes(0, 12), 90 - 4 * 8);
        Checks.due("desk(4)", x.desk(4), 6);
    }

    private static void jam() {
        Checks.part("promise 5");
        CavershamShift x = post();
        x.jammer(11, 3);
        Checks.due("comes(0, 0)", x.comes(0, 0), 66);
        Checks.due("jam(0, 9)", x.jam(0, 9), 3);
        Checks.due("comes(0, 0)", x.comes(0, 0), 18);
        Checks.due("jam(0, 0)", x.jam(0, 0), 9);
        Checks.due("jam(0, 0)", x.jam(0, 0), 0);
        Checks.due("comes(0, 0)", x.comes(0, 0), 90);
        Checks.outOfBounds(x, "jam(1, 2)", () -> x.jam(1, 2));
        Checks.outOfBounds(x, "jam(-1, 20)", () -> x.jam(-1, 20));
        Checks.badArgument(x, "jam(0, 10)", () -> x.jam(0, 10));
        Checks.badArgument(x, "jam(0, -1)", () -> x.jam(0, -1));
    }

    private static void monitor() {
        Checks.part("promise 6");
        CavershamShift x = new CavershamShift();
        Checks.due("monitor(12345)", x.monitor(12345), 0);
        for (int tongue = 0; tongue < 5; tongue++) {
            Checks.due("ofMonitor(0, " + tongue + ")", x.ofMonitor(0, tongue), 5 - tongue);
        }
        Checks.due("monitor(0)", x.monitor(0), 1);
        Checks.due("monitor(99999)", x.monitor(99999), 2);
        Checks.badArgument(x, "monitor(-1)", () -> x.monitor(-1));
        Checks.badArgument(x, "monitor(100000)", () -> x.monitor(100000));
        x.monitor(1);
        Checks.due("monitor(2)", x.monitor(2), 4);
        Checks.badState(x, "monitor the sixth", () -> x.monitor(3));
        Checks.badArgument(x, "monitor the sixth, wrong", () -> x.monitor(-3));
        Checks.due("ofMonitor(4, 5)", x.ofMonitor(4, 5), 0);
    }

    private static void shift() {
        Checks.part("promise 7");
        CavershamShift x = post();
        x.station(50, 5, 0, 1, 1, 1);
        x.monitor(5);
        Checks.due("shift(23, 2, 1, 0)", x.shift(23, 2, 1, 0), NONE);
        Checks.due("shift(23, 2, 0, 0)", x.shift(23, 2, 0, 0), 1);
        Checks.due("shift(23, 2, 0, 1)", x.shift(23, 2, 0, 1), 0);
        Checks.due("shift(23, 0, 0, 0)", x.shift(23, 0, 0, 0), NONE);
        Checks.badState(x, "shift(23, 1, 1, 1)", () -> x.shift(23, 1, 1, 1));
        Checks.badState(x, "shift(23, 2, 1, 0)", () -> x.shift(23, 2, 1, 0));
        Checks.due("shift(22, 1, 1, 1)", x.shift(22, 1, 1, 1), NONE);
        Checks.due("shift(23, 2, -1, -1)", x.shift(23, 2, NONE, NONE), 0);
        Checks.due("shift(23, 2, -1, -1)", x.shift(23, 2, NONE, NONE), NONE);
        Checks.due("shift(23, 1, 1, 1)", x.shift(23, 1, 1, 1), NONE);
        Checks.due("shift(0, 0, 0, 0)", x.shift(0, 0, 0, 0), NONE);
        Checks.outOfBounds(x, "shift(-1, 0, 0, 0)", () -> x.shift(-1, 0, 0, 0));
        Checks.outOfBounds(x, "shift(24, 0, 0, 0)", () -> x.shift(24, 0, 0, 0));
        Checks.outOfBounds(x, "shift(0, -1, 0, 0)", () -> x.shift(0, -1, 0, 0));
        Checks.outOfBounds(x, "shift(0, 3, 0, 0)", () -> x.shift(0, 3, 0, 0));
        Checks.outOfBounds(x, "shift(0, 0, 2, 0)", () -> x.shift(0, 0, 2, 0));
        Checks.outOfBounds(x, "shift(0, 0, -2, 0)", () -> x.shift(0, 0, -2, 0));
        Checks.outOfBounds(x, "shift(0, 0, 0, 2)", () -> x.shift(0, 0, 0, 2));
        Checks.outOfBounds(x, "shift(0, 0, 0, -2)", () -> x.shift(0, 0, 0, -2));
        Checks.outOfBounds(x, "shift(0, 0, -1, 2)", () -> x.shift(0, 0, NONE, 2));
        Checks.badArgument(x, "shift(0, 0, -1, 0)", () -> x.shift(0, 0, NONE, 0));
        Checks.badArgument(x, "shift(0, 0, 0, -1)", () -> x.shift(0, 0, 0, NONE));
        Checks.badArgument(x, "shift(0, 1, -1, 0)", () -> x.shift(0, 1, NONE, 0));
    }

    private static void talk() {
        Checks.part("promise 8");
        CavershamShift x = post();
        x.station(50, 5, 0, 1, 1, 1 << 5);
        Checks.due("talk at the least", x.talk(0, 0, 0, 1, 0, 0), 0);
        Checks.due("talk at the most", x.talk(0, 719, 15, 300, 9, 65535), 1);
        Checks.outOfBounds(x, "talk(2, ..)", () -> x.talk(2, 1, 0, 1, 0, 0));
        Checks.outOfBounds(x, "talk(-1, ..)", () -> x.talk(-1, -1, 0, 1, 0, 0));
        int[] bad = {-1, 720, -1, 16, 0, 301, -1, 10, -1, 65536};
        for (int i = 0; i < bad.length; i++) {
            int[] a = {5, 5, 5, 5, 5};
            a[i / 2] = bad[i];
            Checks.badArgument(x, "talk with " + bad[i] + " as argument " + (1 + i / 2),
                    () -> x.talk(0, a[0], a[1], a[2], a[3], a[4]));
        }
        Checks.badState(x, "a second talk in an hour", () -> x.talk(0, 719, 1, 1, 1, 1));
        Checks.badArgument(x, "a second talk, wrong", () -> x.talk(0, 719, 1, 0, 1, 1));
        Checks.badState(x, "talk off the air", () -> x.talk(1, 4, 1, 1, 1, 1));
        Checks.due("talk on the air", x.talk(1, 5 + 24, 1, 1, 1, 1), 2);
        x.pass(3);
        Checks.badArgument(x, "talk in an hour that is over", () -> x.talk(0, 2, 1, 1, 1, 1));
        Checks.due("talk in this hour", x.talk(0, 3, 1, 1, 1, 1), 3);
        for (int i = 4; i < 40; i++) {
            Checks.due("talk " + i, x.talk(0, i, 1, 1, 1, 1), i);
        }
        Checks.badState(x, "talk the 41st", () -> x.talk(0, 100, 1, 1, 1, 1));
        Checks.badArgument(x, "talk the 41st, wrong", () -> x.talk(0, 100, 16, 1, 1, 1));
        Checks.due("desk(6)", x.desk(6), 40);
        for (int i = 0; i < 15; i++) {
            x.pass(i == 14 ? 45 : 48);
        }
        Checks.due("desk(0)", x.desk(0), 720);
        Checks.badArgument(x, "talk at the end", () -> x.talk(0, 720, 1, 1, 1, 1));
        Checks.badArgument(x, "talk at the end", () -> x.talk(0, 719, 1, 1, 1, 1));
    }

    private static void print() {
        Checks.part("promise 9");
        CavershamShift x = post();
        sit(x, 0, 1);
        x.talk(0, 0, 0, 100, 5, 7);
        x.talk(0, 1, 0, 100, 5, 7);
        x.talk(0, 2, 0, 100, 5, 7);
        Checks.outOfBounds(x, "print(3, 0)", () -> x.print(3, 0));
        Checks.outOfBounds(x, "print(-1, -1)", () -> x.print(-1, -1));
        Checks.badArgument(x, "print(0, -1)", () -> x.print(0, -1));
        Checks.badArgument(x, "print(0, 65536)", () -> x.print(0, 65536));
        Checks.due("print ahead of its hour", x.print(1, 65535), NONE);
        x.pass(3);
        Checks.due("print without a report", x.print(2, 65535), NONE);
        Checks.due("print of a report", x.print(0, 65530), 65528);
        Checks.badState(x, "print again", () -> x.print(0, 0));
        Checks.badState(x, "print again", () -> x.print(1, 65535));
        Checks.badArgument(x, "print again, wrong", () -> x.print(1, -1));
        Checks.due("ofTalk(0, 6)", x.ofTalk(0, 6), 65530);
        CavershamShift y = post();
        y.talk(0, 0, 0, 1, 0, 0);
        Checks.due("an empty print", y.print(0, 0), NONE);
        Checks.badState(y, "print behind an empty one", () -> y.print(0, 0));
    }

    /** A correction goes an hour behind the report in error, ahead of all reports, in the order of waiting. */
    private static void printAndCorrections() {
        Checks.part("promises 9 and 13: corrections");
        CavershamShift x = post();
        sit(x, 0, 5);
        x.reader(1, 3);
        for (int hour = 0; hour < 4; hour++) {
            x.talk(0, hour, 1, hour < 2 ? 150 : 100, 5, 3);
        }
        x.print(2, 4);
        x.pass(2);
        Checks.due("print(1, 11)", x.print(1, 11), 8);
        Checks.due("ofReport(1, 11)", x.ofReport(1, 11), 1);
        Checks.due("print(0, 16)", x.print(0, 16), 16);
        Checks.due("desk(14)", x.desk(14), 2);
        x.reader(1, 3);
        x.pass(1);
        Checks.due("the first two are sent", x.desk(15), 2);
        Checks.due("a report sent in error waits for its correction", x.ofReport(2, 11), 1);
        Checks.due("ofReport(2, 10)", x.ofReport(2, 10), 1);
        Checks.due("desk(13)", x.desk(13), 600 - 150 - 150 - 20 - x.ofReport(2, 1));
        Checks.due("got(0, 0)", x.got(0, 0), 2);
        Checks.due("got(1, 0)", x.got(1, 0), 0);
        Checks.due("got(0, 2)", x.got(0, 2), 1);
        Checks.due("got(1, 2)", x.got(1, 2), 1);
        x.pass(1);
        Checks.due("got(1, 2)", x.got(1, 2), 2);
        Checks.due("got(0, 3)", x.got(0, 3), 1);
        Checks.due("ofReport(3, 11)", x.ofReport(3, 11), 0);
        Checks.due("isSound()", x.isSound(), true);
        correctionsEndWithTheWords();
    }

    private static void correctionsEndWithTheWords() {
        CavershamShift x = post();
        sit(x, 0, 3);
        x.talk(0, 0, 0, 290, 5, 3);
        x.talk(0, 1, 0, 291, 5, 3);
        x.talk(0, 3, 0, 11, 9, 0);
        x.pass(2);
        x.print(1, 0);
        x.print(0, 4);
        Checks.due("desk(13)", x.desk(13), 19);
        Checks.due("print without an error", x.desk(14), 1);
        x.pass(1);
        Checks.due("desk(13)", x.desk(13), 9);
        x.talk(0, 4, 0, 18, 9, 0);
        x.shift(4, 0, 0, 0);
        x.pass(1);
        Checks.due("desk(13)", x.desk(13), 0);
        x.print(2, 1);
        Checks.due("a print in error", x.desk(14), 1);
        x.pass(1);
        Checks.due("no words for a correction", x.ofReport(2, 11), 1);
        Checks.due("no words for a report", x.ofReport(3, 5), 0);
        x.pass(19);
        Checks.due("desk(13) at the end of the day", x.desk(13), 600);
        x.pass(1);
        Checks.due("a correction ahead of the reports", x.desk(13), 590 - x.ofReport(3, 1));
        Checks.due("ofReport(3, 6)", x.ofReport(3, 6), 24);
    }

    private static void reader() {
        Checks.part("promise 10");
        CavershamShift x = new CavershamShift();
        Checks.due("reader(0, 0)", x.reader(0, 0), 0);
        Checks.due("reader(63, 65535)", x.reader(63, 65535), 1);
        Checks.badArgument(x, "reader(-1, 0)", () -> x.reader(-1, 0));
        Checks.badArgument(x, "reader(64, 0)", () -> x.reader(64, 0));
        Checks.badArgument(x, "reader(0, -1)", () -> x.reader(0, -1));
        Checks.badArgument(x, "reader(0, 65536)", () -> x.reader(0, 65536));
        x.reader(1, 2);
        Checks.due("reader(1, 2)", x.reader(1, 2), 3);
        Checks.badState(x, "reader the fifth", () -> x.reader(1, 2));
        Checks.badArgument(x, "reader the fifth, wrong", () -> x.reader(1, -2));
        Checks.due("desk(16)", x.desk(16), 4);
    }

    private static void ask() {
        Checks.part("promise 11");
        CavershamShift x = post();
        sit(x, 0, 4);
        x.reader(63, 65535);
        for (int hour = 0; hour < 5; hour++) {
            x.talk(0, hour, hour, 300, 5, 0);
        }
        x.pass(5);
        Checks.due("desk(8)", x.desk(8), 3);
        Checks.due("ask for all", x.ask(0, 63, 65535), 3);
        Checks.due("ask for two topics", x.ask(0, 1, 1 << 3 | 1 << 4), 2);
        Checks.due("ask for what is sent", x.ask(0, 1, 3), 0);
        Checks.due("ask for other lands", x.ask(0, 62, 65535), 0);
        Checks.due("ofReader(0, 0)", x.ofReader(0, 0), 62);
        Checks.due("ofReader(0, 1)", x.ofReader(0, 1), 65535);
        Checks.due("what it has stays", x.ofReader(0, 2), 2);
        Checks.outOfBounds(x, "ask(1, 0, 0)", () -> x.ask(1, 0, 0));
        Checks.outOfBounds(x, "ask(-1, 64, 0)", () -> x.ask(-1, 64, 0));
        Checks.badArgument(x, "ask(0, 64, 0)", () -> x.ask(0, 64, 0));
        Checks.badArgument(x, "ask(0, -1, 0)", () -> x.ask(0, -1, 0));
        Checks.badArgument(x, "ask(0, 0, -1)", () -> x.ask(0, 0, -1));
        Checks.badArgument(x, "ask(0, 0, 65536)", () -> x.ask(0, 0, 65536));
        Checks.due("ask(0, 1, 4)", x.ask(0, 1, 1 << 2), 1);
        x.pass(20);
        Checks.due("by the set then", x.got(0, 2), 1);
        Checks.due("not by the set before", x.got(0, 3), 0);
    }

    private static void partner() {
        Checks.part("promise 12");
        CavershamShift x = post();
        sit(x, 0, 5);
        Checks.due("partner(63)", x.partner(63), 0);
        Checks.due("partner(1)", x.partner(1), 63);
        int[] weights = {9, 5, 3, 2, 5};
        for (int hour = 0; hour < 5; hour++) {
            x.talk(0, hour, hour, 18, weights[hour], 0);
        }
        x.pass(4);
        Checks.due("partner(62)", x.partner(62), 1);
        x.pass(1);
        int[] stands = {1, 3, 3, 4, 1};
        for (int talk = 0; talk < 5; talk++) {
            Checks.due("ofReport(" + talk + ", 5)", x.ofReport(talk, 5), stands[talk]);
        }
        Checks.due("desk(11)", x.desk(11), 2);
        Checks.due("desk(17)", x.desk(17), 62);
        Checks.badArgument(x, "partner(-1)", () -> x.partner(-1));
        Checks.badArgument(x, "partner(64)", () -> x.partner(64));
        Checks.due("partner(0)", x.partner(0), 62);
    }

    private static void pass() {
        Checks.part("promise 13");
        CavershamShift x = post();
        Checks.badArgument(x, "pass(0)", () -> x.pass(0));
        Checks.badArgument(x, "pass(-1)", () -> x.pass(-1));
        Checks.badArgument(x, "pass(49)", () -> x.pass(49));
        Checks.due("pass(1)", x.pass(1), 1);
        for (int i = 1; i < 15; i++) {
            Checks.due("pass(48)", x.pass(48), 1 + 48 * i);
        }
        Checks.badState(x, "pass(48)", () -> x.pass(48));
        Checks.badArgument(x, "pass(49)", () -> x.pass(49));
        Checks.due("pass(47)", x.pass(47), 720);
        Checks.badState(x, "pass(1)", () -> x.pass(1));
        Checks.due("desk(1)", x.desk(1), 30);
        Checks.due("desk(2)", x.desk(2), 0);
        severalRecords();
    }

    private static void severalRecords() {
        CavershamShift x = post();
        x.monitor(8);
        x.monitor(9);
        x.shift(0, 0, 0, 1);
        x.shift(0, 1, 0, 2);
        x.shift(0, 2, 0, 0);
        x.talk(0, 0, 0, 100, 5, 0);
        x.pass(1);
        Checks.due("the greatest quality, of these the smallest set", x.ofReport(0, 7), 1);
        Checks.due("ofReport(0, 8)", x.ofReport(0, 8), 2);
        Checks.due("ofReport(0, 9)", x.ofReport(0, 9), 18);
        Checks.due("ofMonitor(1, 5)", x.ofMonitor(1, 5), 3);
        x.pass(1);
        Checks.due("ofMonitor(1, 5)", x.ofMonitor(1, 5), 1);
        x.pass(1);
        Checks.due("held to 0", x.ofMonitor(1, 5), 0);
        sit(x, 3, 20);
        x.pass(14);
        Checks.due("held to 40", x.ofMonitor(0, 5), 40);
        Checks.due("tired", x.quality(0, 0, 12), 8);
        x.pass(4);
        x.pass(1);
        Checks.due("from 40", x.ofMonitor(0, 5), 38);
    }

    /** The wire: the greatest sort, then weight, then the smallest talk; what is too long is passed over. */
    private static void wire() {
        Checks.part("promise 13: the wire");
        CavershamShift x = post();
        x.station(30, 9, 0, 0, 0, ALL_DAY);
        x.station(40, 9, 0, 1, 0, ALL_DAY);
        x.monitor(99999);
        x.monitor(99999);
        for (int set = 0; set < 3; set++) {
            x.shift(0, set, set, set);
            x.shift(1, set, set, set);
        }
        x.reader(1, 65535);
        x.talk(0, 0, 0, 300, 5, 0);
        x.talk(1, 0, 1, 290, 6, 0);
        x.talk(2, 0, 2, 20, 3, 0);
        x.pass(1);
        Checks.due("desk(13)", x.desk(13), 5);
        Checks.due("got(0, 0)", x.got(0, 0), 1);
        Checks.due("got(0, 2)", x.got(0, 2), 0);
        x.talk(0, 1, 3, 300, 7, 0);
        x.talk(1, 1, 3, 5, 5, 0);
        x.talk(2, 1, 3, 300, 9, 0);
        x.pass(1);
        Checks.due("flash too long", x.ofReport(5, 5), 0);
        Checks.due("text too long", x.ofReport(3, 5), 0);
        Checks.due("short text is sent", x.ofReport(4, 5), 1);
        Checks.due("desk(13)", x.desk(13), 0);
        x.pass(22);
        Checks.due("desk(13) as a day begins", x.desk(13), 600);
        x.pass(1);
        Checks.due("flash first", x.first(3), 4);
        Checks.due("ofReport(5, 6)", x.ofReport(5, 6), 24);
        Checks.due("all are sent", x.desk(9), 6);
        orderOfTheWire();
    }

    private static void orderOfTheWire() {
        int[][] weights = {{5, 7}, {7, 5}, {5, 5}, {4, 5}, {8, 9}};
        int[] ahead = {1, 0, 0, 1, 1};
        for (int i = 0; i < weights.length; i++) {
            CavershamShift x = post();
            x.station(30, 9, 0, 0, 0, ALL_DAY);
            x.monitor(99999);
            x.shift(0, 0, 0, 0);
            x.shift(0, 1, 1, 1);
            x.talk(0, 0, 7, 10, weights[i][0], 0);
            x.talk(1, 0, 7, 10, weights[i][1], 0);
            x.pass(1);
            Checks.due("first of " + weights[i][0] + " and " + weights[i][1], x.first(7), ahead[i]);
        }
    }

    private static void stale() {
        Checks.part("promise 13: stale");
        CavershamShift x = post();
        x.station(30, 9, 0, 0, 0, ALL_DAY);
        x.station(40, 9, 0, 0, 0, ALL_DAY);
        x.monitor(99999);
        x.monitor(99999);
        for (int set = 0; set < 3; set++) {
            x.shift(0, set, set, set);
            x.talk(set, 0, 0, 300, 5, 0);
            x.talk(set, 24, 0, 300, 6, 0);
        }
        x.pass(24);
        Checks.due("desk(8)", x.desk(8), 1);
        Checks.due("wouldSend()", x.wouldSend(), 0);
        x.pass(1);
        Checks.due("stale, 24 hours behind", x.ofReport(4, 5), 2);
        Checks.due("desk(10)", x.desk(10), 1);
        Checks.due("ofReport(4, 6)", x.ofReport(4, 6), NONE);
        Checks.due("desk(9)", x.desk(9), 4);
        CavershamShift y = post();
        sit(y, 1, 3);
        for (int hour = 1; hour < 4; hour++) {
            y.talk(0, hour, 0, 300, 5, 0);
        }
        y.pass(24);
        Checks.due("waits on the next day", y.wouldSend(), 1);
        y.pass(1);
        Checks.due("23 hours behind", y.ofReport(2, 5), 1);
        for (int place = 0; place < 3; place++) {
            staleAt(place);
        }
    }

    /** Three talks of 300 words in one hour; that at the place has the least weight. */
    private static void staleAt(int place) {
        CavershamShift x = post();
        x.station(30, 9, 0, 0, 0, ALL_DAY);
        x.station(40, 9, 0, 0, 0, ALL_DAY);
        x.monitor(99999);
        x.monitor(99999);
        x.reader(0, 0);
        for (int set = 0; set < 3; set++) {
            x.shift(0, set, set, set);
            x.talk(set, 0, 0, 300, set == place ? 5 : 6, 0);
        }
        x.pass(24);
        Checks.due("waits at place " + place, x.ofReport(place, 5), 0);
        Checks.due("ask for that at place " + place, x.ask(0, 1, 1), 1);
        Checks.due("wouldSend()", x.wouldSend(), 0);
        x.pass(1);
        Checks.due("stale at place " + place, x.ofReport(place, 5), 2);
    }

    private static void call() {
        Checks.part("promise 14");
        CavershamShift x = new CavershamShift();
        Checks.due("call()", x.call(), 1);
        Checks.due("call()", x.call(), 2);
        Checks.due("desk(18)", x.desk(18), 2);
    }

    private static void ofStation() {
        Checks.part("promise 15");
        CavershamShift x = new CavershamShift();
        x.station(10, 8, 4, 3, 2, 1);
        x.monitor(99999);
        x.shift(0, 0, 0, 0);
        x.talk(0, 0, 0, 10, 1, 0);
        x.talk(0, 24, 0, 10, 1, 0);
        int[] now = {10, 8, 4, 3, 2, 1, 81, 2, 0};
        int[] then = {10, 8, 4, 3, 2, 0, 0, 2, 1};
        for (int what = 0; what < 9; what++) {
            Checks.due("ofStation(0, " + what + ")", x.ofStation(0, what), now[what]);
        }
        x.pass(1);
        for (int what = 0; what < 9; what++) {
            Checks.due("ofStation(0, " + what + ")", x.ofStation(0, what), then[what]);
        }
        Checks.outOfBounds(x, "ofStation(1, 0)", () -> x.ofStation(1, 0));
        Checks.outOfBounds(x, "ofStation(-1, 9)", () -> x.ofStation(-1, 9));
        Checks.badArgument(x, "ofStation(0, 9)", () -> x.ofStation(0, 9));
        Checks.badArgument(x, "ofStation(0, -1)", () -> x.ofStation(0, -1));
    }

    private static void comes() {
        Checks.part("promise 16");
        CavershamShift x = new CavershamShift();
        x.station(49, 9, 4, 0, 0, ALL_DAY);
        x.station(52, 9, 4, 0, 0, ALL_DAY);
        x.station(20, 9, 3, 0, 0, ALL_DAY);
        for (int hour = 0; hour < 24; hour++) {
            boolean isNight = hour >= 18 || hour <= 5;
            Checks.due("comes(0, " + hour + ")", x.comes(0, hour), isNight ? 91 : 66);
            Checks.due("comes(1, " + hour + ")", x.comes(1, hour), isNight ? 66 : 91);
            Checks.due("comes(2, " + hour + ")", x.comes(2, hour), 72);
        }
        x.drift(1, 50);
        Checks.due("a station next to it", x.comes(0, 12), 56);
        Checks.due("a station next to it", x.comes(1, 12), 81);
        x.drift(1, 51);
        Checks.due("a station two bands off", x.comes(0, 12), 66);
        x.station(20, 1, 9, 0, 0, 1);
        Checks.due("another on the air", x.comes(2, 0), 62);
        Checks.due("another off the air", x.comes(2, 1), 72);
        Checks.due("below 0", x.comes(3, 0), 10 - 54 + 25 - 10);
        Checks.due("off the air", x.comes(3, 23), 0);
        x.jammer(21, 9);
        x.jammer(19, 1);
        x.jammer(22, 9);
        x.jammer(18, 9);
        Checks.due("two jammers", x.comes(2, 1), 72 - 72 - 8);
        Checks.due("a jammer off the air", x.comes(3, 23), 0);
        Checks.outOfBounds(x, "comes(4, 0)", () -> x.comes(4, 0));
        Checks.outOfBounds(x, "comes(-1, 0)", () -> x.comes(-1, 0));
        Checks.outOfBounds(x, "comes(0, 24)", () -> x.comes(0, 24));
        Checks.outOfBounds(x, "comes(0, -1)", () -> x.comes(0, -1));
    }

    private static void ofMonitor() {
        Checks.part("promise 17");
        CavershamShift x = post();
        x.monitor(54321);
        x.shift(0, 2, 0, 1);
        x.shift(1, 1, 0, 1);
        x.talk(0, 0, 0, 10, 5, 0);
        int[] start = {1, 2, 3, 4, 5, 0, 0, 0, 2};
        for (int what = 0; what < 9; what++) {
            Checks.due("ofMonitor(1, " + what + ")", x.ofMonitor(1, what), start[what]);
        }
        x.pass(1);
        int[] then = {1, 2, 3, 4, 5, 3, 1, 1, 1};
        for (int what = 0; what < 9; what++) {
            Checks.due("ofMonitor(1, " + what + ")", x.ofMonitor(1, what), then[what]);
        }
        Checks.due("ofMonitor(0, 7)", x.ofMonitor(0, 7), 0);
        x.pass(24);
        Checks.due("sat ever", x.ofMonitor(1, 6), 3);
        Checks.due("tired once anew", x.ofMonitor(1, 5), 3);
        x.pass(1);
        Checks.due("nowhere in this hour", x.ofMonitor(1, 8), NONE);
        Checks.outOfBounds(x, "ofMonitor(2, 0)", () -> x.ofMonitor(2, 0));
        Checks.outOfBounds(x, "ofMonitor(-1, 9)", () -> x.ofMonitor(-1, 9));
        Checks.badArgument(x, "ofMonitor(0, 9)", () -> x.ofMonitor(0, 9));
        Checks.badArgument(x, "ofMonitor(0, -1)", () -> x.ofMonitor(0, -1));
    }

    private static void sits() {
        Checks.part("promise 18");
        CavershamShift x = post();
        x.station(3, 3, 3, 3, 3, 3);
        x.shift(23, 2, 1, 0);
        Checks.due("sits(23, 2, true)", x.sits(23, 2, true), 0);
        Checks.due("sits(23, 2, false)", x.sits(23, 2, false), 1);
        Checks.due("sits(23, 1, false)", x.sits(23, 1, false), NONE);
        Checks.due("sits(0, 0, true)", x.sits(0, 0, true), NONE);
        x.shift(23, 2, NONE, NONE);
        Checks.due("sits(23, 2, true)", x.sits(23, 2, true), NONE);
        Checks.outOfBounds(x, "sits(24, 0, true)", () -> x.sits(24, 0, true));
        Checks.outOfBounds(x, "sits(-1, 0, true)", () -> x.sits(-1, 0, true));
        Checks.outOfBounds(x, "sits(0, 3, false)", () -> x.sits(0, 3, false));
        Checks.outOfBounds(x, "sits(0, -1, false)", () -> x.sits(0, -1, false));
    }

    private static void quality() {
        Checks.part("promise 19");
        CavershamShift x = new CavershamShift();
        x.station(10, 3, 0, 0, 2, ALL_DAY - 1);
        x.station(20, 1, 1, 0, 1, ALL_DAY);
        x.station(30, 9, 0, 0, 1, ALL_DAY);
        x.monitor(410);
        x.monitor(90);
        Checks.due("clear 3, skill 4", x.quality(0, 0, 1), 7);
        Checks.due("off the air", x.quality(0, 0, 0), 0);
        Checks.due("clear 0", x.quality(1, 1, 1), 0);
        Checks.due("skill 0", x.quality(1, 0, 1), 0);
        Checks.due("clear 9, skill 9", x.quality(1, 2, 1), 18);
        x.shift(1, 0, 0, 0);
        x.shift(2, 0, 0, 0);
        x.pass(2);
        Checks.due("weary 3", x.quality(0, 0, 1), 7);
        Checks.due("in the last hour of the day", x.quality(0, 0, 23), 7);
        x.pass(1);
        Checks.due("weary 6", x.quality(0, 0, 1), 6);
        for (int hour = 3; hour < 24; hour++) {
            x.shift(hour, 0, 0, 0);
        }
        x.pass(20);
        Checks.due("weary 40, not below 0", x.quality(0, 0, 1), 0);
        Checks.due("weary 40", x.quality(0, 2, 1), 0);
        Checks.outOfBounds(x, "quality(2, 0, 0)", () -> x.quality(2, 0, 0));
        Checks.outOfBounds(x, "quality(-1, 0, 0)", () -> x.quality(-1, 0, 0));
        Checks.outOfBounds(x, "quality(0, 3, 0)", () -> x.quality(0, 3, 0));
        Checks.outOfBounds(x, "quality(0, -1, 0)", () -> x.quality(0, -1, 0));
        Checks.outOfBounds(x, "quality(0, 0, 24)", () -> x.quality(0, 0, 24));
        Checks.outOfBounds(x, "quality(0, 0, -1)", () -> x.quality(0, 0, -1));
    }

    private static void ofTalk() {
        Checks.part("promise 20");
        CavershamShift x = post();
        x.station(40, 9, 0, 0, 0, ALL_DAY);
        x.shift(1, 0, 1, 0);
        x.talk(1, 1, 2, 3, 4, 5);
        x.talk(0, 1, 2, 3, 4, 5);
        int[] told = {1, 1, 2, 3, 4, 5, NONE, 0};
        for (int what = 0; what < 8; what++) {
            Checks.due("ofTalk(0, " + what + ")", x.ofTalk(0, what), told[what]);
        }
        x.print(0, 0);
        Checks.due("ofTalk(0, 6)", x.ofTalk(0, 6), 0);
        x.pass(1);
        Checks.due("in its hour", x.ofTalk(0, 7), 0);
        x.pass(1);
        Checks.due("with a report", x.ofTalk(0, 7), 2);
        Checks.due("without a report", x.ofTalk(1, 7), 1);
        Checks.outOfBounds(x, "ofTalk(2, 0)", () -> x.ofTalk(2, 0));
        Checks.outOfBounds(x, "ofTalk(-1, 8)", () -> x.ofTalk(-1, 8));
        Checks.badArgument(x, "ofTalk(0, 8)", () -> x.ofTalk(0, 8));
        Checks.badArgument(x, "ofTalk(0, -1)", () -> x.ofTalk(0, -1));
    }

    private static void ofReport() {
        Checks.part("promise 21");
        int[] sorts = {0, 0, 0, 1, 1, 2, 2, 2, 3, 3};
        int[] lengths = {0, 0, 0, 22, 22, 88, 88, 88, 20, 20};
        for (int weight = 0; weight < 10; weight++) {
            CavershamShift x = new CavershamShift();
            x.station(10, 7, 0, 0, 0, ALL_DAY);
            x.monitor(9);
            x.shift(0, 1, 0, 0);
            x.talk(0, 0, 0, 99, weight, 65535);
            Checks.due("ahead of it", x.ofReport(0, 0), -2);
            x.pass(1);
            int stands = weight < 3 ? 4 : 1;
            int sent = weight < 3 ? NONE : 0;
            int[] due = {sorts[weight], lengths[weight], 88, 65535, NONE, stands, sent, 1, 0, 16, 0, 0};
            for (int what = 0; what < 12; what++) {
                Checks.due("ofReport(0, " + what + ") with weight " + weight, x.ofReport(0, what), due[what]);
            }
        }
        CavershamShift x = post();
        x.talk(0, 0, 0, 99, 9, 0);
        x.pass(1);
        Checks.due("without a report", x.ofReport(0, 11), -2);
        Checks.outOfBounds(x, "ofReport(1, 0)", () -> x.ofReport(1, 0));
        Checks.outOfBounds(x, "ofReport(-1, 12)", () -> x.ofReport(-1, 12));
        Checks.badArgument(x, "ofReport(0, 12)", () -> x.ofReport(0, 12));
        Checks.badArgument(x, "ofReport(0, -1)", () -> x.ofReport(0, -1));
        shortFlash();
    }

    private static void shortFlash() {
        CavershamShift x = new CavershamShift();
        x.station(10, 1, 0, 0, 0, ALL_DAY);
        x.monitor(1);
        x.shift(0, 0, 0, 0);
        x.shift(1, 0, 0, 0);
        x.talk(0, 0, 0, 99, 9, 0);
        x.talk(0, 1, 0, 8, 9, 0);
        x.pass(2);
        Checks.due("a short flash", x.ofReport(0, 1), 11);
        Checks.due("nothing caught", x.ofReport(1, 1), 0);
        Checks.due("nothing caught is sent", x.ofReport(1, 5), 1);
    }

    /** By quality: below it heard, with its number the next one guessed. */
    private static void mishearing() {
        Checks.part("promises 9 and 21: mishearing");
        for (int clear = 1; clear <= 9; clear++) {
            for (int skill = 1; skill <= 9; skill++) {
                int quality = clear + skill;
                CavershamShift x = new CavershamShift();
                x.station(10, clear, 0, 0, 0, ALL_DAY);
                x.monitor(skill);
                x.shift(0, 0, 0, 0);
                x.shift(24 - 1, 0, 0, 0);
                x.talk(0, 0, 0, 10, 9, 65535);
                x.pass(1);
                Checks.due("heard with " + quality, x.ofReport(0, 3), (1 << quality) - 1 & 65535);
                Checks.due("guessed with " + quality, x.ofReport(0, 4), quality <= 14 ? quality + 1 : NONE);
            }
        }
        CavershamShift x = new CavershamShift();
        x.station(10, 2, 0, 0, 0, ALL_DAY);
        x.monitor(1);
        x.shift(0, 0, 0, 0);
        x.shift(1, 0, 0, 0);
        x.shift(2, 0, 0, 0);
        x.talk(0, 0, 0, 10, 9, 1 << 3);
        x.talk(0, 1, 0, 10, 9, 1 << 3);
        x.talk(0, 2, 0, 10, 9, 1 << 4);
        x.pass(2);
        Checks.due("ofReport(0, 4)", x.ofReport(0, 4), 4);
        Checks.due("ofReport(0, 3)", x.ofReport(0, 3), 0);
        Checks.due("a guess that is in the print", x.print(0, 1 << 4), 0);
        Checks.due("ofReport(0, 10)", x.ofReport(0, 10), 0);
        Checks.due("a guess that is not in the print", x.print(1, 0), 0);
        Checks.due("ofReport(1, 10)", x.ofReport(1, 10), 1);
        Checks.due("ofReport(1, 11)", x.ofReport(1, 11), 1);
        x.pass(1);
        Checks.due("neither heard nor guessed", x.ofReport(2, 4), NONE);
        Checks.due("a used formula is not a guessed one", x.used(0, 4, 0, 0), 0);
    }

    private static void got() {
        Checks.part("promise 22");
        CavershamShift x = post();
        sit(x, 0, 2);
        x.reader(1, 1);
        x.reader(1, 2);
        x.reader(2, 1);
        x.talk(0, 0, 0, 10, 5, 1);
        x.pass(1);
        Checks.due("got(0, 0)", x.got(0, 0), 1);
        Checks.due("another topic", x.got(1, 0), 0);
        Checks.due("another land", x.got(2, 0), 0);
        x.print(0, 2);
        x.ask(0, 0, 0);
        x.ask(1, 63, 65535);
        Checks.due("its correction waits", x.got(0, 0), 1);
        x.pass(1);
        Checks.due("got(0, 0)", x.got(0, 0), 2);
        Checks.due("who has no report has no correction", x.got(1, 0), 0);
        Checks.outOfBounds(x, "got(3, 0)", () -> x.got(3, 0));
        Checks.outOfBounds(x, "got(-1, 0)", () -> x.got(-1, 0));
        Checks.outOfBounds(x, "got(0, 1)", () -> x.got(0, 1));
        Checks.outOfBounds(x, "got(0, -1)", () -> x.got(0, -1));
    }

    private static void ofReader() {
        Checks.part("promise 23");
        CavershamShift x = post();
        sit(x, 0, 2);
        x.reader(3, 5);
        for (int hour = 0; hour < 3; hour++) {
            x.talk(0, hour, 2, 10, 5, 1);
        }
        x.pass(3);
        x.print(0, 2);
        x.print(1, 1);
        int[] wrong = {3, 5, 3, 0, 1};
        for (int what = 0; what < 5; what++) {
            Checks.due("ofReader(0, " + what + ")", x.ofReader(0, what), wrong[what]);
        }
        x.pass(1);
        int[] right = {3, 5, 3, 1, 0};
        for (int what = 0; what < 5; what++) {
            Checks.due("ofReader(0, " + what + ")", x.ofReader(0, what), right[what]);
        }
        Checks.outOfBounds(x, "ofReader(1, 0)", () -> x.ofReader(1, 0));
        Checks.outOfBounds(x, "ofReader(-1, 5)", () -> x.ofReader(-1, 5));
        Checks.badArgument(x, "ofReader(0, 5)", () -> x.ofReader(0, 5));
        Checks.badArgument(x, "ofReader(0, -1)", () -> x.ofReader(0, -1));
    }

    /** Talks of station 0 in the first hour of the days, each heard, with the formulas. */
    private static CavershamShift landThatSays(int[] days, int[] formulas) {
        CavershamShift x = post();
        x.shift(0, 0, 0, 0);
        for (int i = 0; i < days.length; i++) {
            x.talk(0, 24 * days[i], 0, 10, i % 10, formulas[i]);
        }
        return x;
    }

    private static void passDays(CavershamShift x, int days) {
        for (int i = 0; i < days; i++) {
            x.pass(24);
        }
    }

    private static void used() {
        Checks.part("promise 24");
        CavershamShift x = landThatSays(new int[] {0, 1, 2, 4}, new int[] {1, 3, 1, 1});
        passDays(x, 4);
        Checks.due("used(0, 0, 0, 3)", x.used(0, 0, 0, 3), 3);
        Checks.due("used(0, 1, 0, 3)", x.used(0, 1, 0, 3), 1);
        Checks.due("used(0, 0, 1, 1)", x.used(0, 0, 1, 1), 1);
        Checks.due("used(0, 0, 1, 2)", x.used(0, 0, 1, 2), 2);
        Checks.due("a talk to come", x.used(0, 0, 4, 4), 0);
        Checks.due("used(0, 0, 2, 1)", x.used(0, 0, 2, 1), 0);
        Checks.due("all days", x.used(0, 0, Integer.MIN_VALUE, Integer.MAX_VALUE), 3);
        Checks.due("another land", x.used(1, 0, 0, 9), 0);
        Checks.due("the last land and formula", x.used(5, 15, 0, 9), 0);
        Checks.outOfBounds(x, "used(6, 0, 0, 0)", () -> x.used(6, 0, 0, 0));
        Checks.outOfBounds(x, "used(-1, 0, 0, 0)", () -> x.used(-1, 0, 0, 0));
        Checks.outOfBounds(x, "used(0, 16, 0, 0)", () -> x.used(0, 16, 0, 0));
        Checks.outOfBounds(x, "used(0, -1, 0, 0)", () -> x.used(0, -1, 0, 0));
    }

    private static void gone() {
        Checks.part("promise 25");
        CavershamShift x = landThatSays(new int[] {0, 1, 2, 3, 4}, new int[] {7, 7, 3, 1, 0});
        passDays(x, 4);
        Checks.due("one report in the last days", x.gone(0), 0);
        x.pass(1);
        Checks.due("formula 1 on days 0 to 1 and 2", x.gone(0), 0);
        x.pass(23);
        Checks.due("formula 0 still on day 3", x.gone(0), 2);
        x.pass(24);
        Checks.due("one report in days 4 to 6", x.gone(0), 0);
        Checks.due("another land", x.gone(1), 0);
        Checks.due("the last land", x.gone(5), 0);
        Checks.outOfBounds(x, "gone(6)", () -> x.gone(6));
        Checks.outOfBounds(x, "gone(-1)", () -> x.gone(-1));
        goneByDays();
    }

    private static void goneByDays() {
        int[] formulas = {1, 1, 1, 0, 0};
        CavershamShift far = landThatSays(new int[] {0, 1, 2, 9, 10}, formulas);
        passDays(far, 9);
        far.pass(1);
        Checks.due("one report on day 9", far.gone(0), 0);
        far.pass(23);
        far.pass(1);
        Checks.due("day 0 is behind day 10 - 9", far.gone(0), 0);
        CavershamShift near = landThatSays(new int[] {0, 1, 2, 8, 9}, formulas);
        passDays(near, 9);
        near.pass(1);
        Checks.due("day 0 is day 9 - 9", near.gone(0), 1);
        CavershamShift late = landThatSays(new int[] {0, 1, 3, 4, 5}, formulas);
        passDays(late, 5);
        late.pass(1);
        Checks.due("day 3 is day 5 - 2", late.gone(0), 0);
        passDays(late, 1);
        Checks.due("day 3 is day 6 - 3", late.gone(0), 1);
        CavershamShift twice = landThatSays(new int[] {0, 1, 5, 6}, new int[] {1, 1, 0, 0});
        passDays(twice, 7);
        Checks.due("used but twice", twice.gone(0), 0);
    }

    private static void first() {
        Checks.part("promise 26");
        CavershamShift x = post();
        x.station(30, 9, 0, 0, 0, ALL_DAY);
        x.monitor(99999);
        for (int hour = 0; hour < 3; hour++) {
            x.shift(hour, 0, 0, 0);
            x.shift(hour, 1, 1, 1);
        }
        x.talk(1, 1, 4, 10, 5, 0);
        x.talk(0, 0, 4, 10, 2, 0);
        x.talk(0, 1, 4, 10, 5, 0);
        x.talk(0, 2, 15, 10, 5, 0);
        x.talk(1, 2, 15, 10, 9, 0);
        Checks.due("first(4)", x.first(4), NONE);
        x.pass(1);
        Checks.due("a dropped one is not sent", x.first(4), NONE);
        x.pass(2);
        Checks.due("first(4)", x.first(4), 0);
        Checks.due("first(15)", x.first(15), 4);
        Checks.due("first(0)", x.first(0), NONE);
        Checks.outOfBounds(x, "first(16)", () -> x.first(16));
        Checks.outOfBounds(x, "first(-1)", () -> x.first(-1));
    }

    private static void clarity() {
        Checks.part("promise 27");
        CavershamShift x = post();
        x.station(30, 3, 0, 0, 0, ALL_DAY);
        x.station(40, 3, 0, 5, 0, ALL_DAY);
        x.monitor(4);
        x.monitor(1);
        x.shift(0, 0, 0, 0);
        x.shift(0, 1, 1, 1);
        x.shift(0, 2, 2, 2);
        x.shift(2, 1, 1, 1);
        Checks.due("clarity(0)", x.clarity(0), 0.0);
        x.talk(0, 0, 0, 10, 0, 0);
        x.talk(1, 0, 0, 10, 5, 0);
        x.talk(2, 0, 0, 10, 5, 0);
        x.talk(1, 2, 0, 10, 9, 0);
        x.pass(1);
        Checks.due("clarity(0)", x.clarity(0), 12.5);
        x.pass(2);
        Checks.due("clarity(0)", x.clarity(0), 32.0 / 3.0);
        Checks.due("clarity(5)", x.clarity(5), 4.0);
        Checks.due("clarity(1)", x.clarity(1), 0.0);
        Checks.outOfBounds(x, "clarity(6)", () -> x.clarity(6));
        Checks.outOfBounds(x, "clarity(-1)", () -> x.clarity(-1));
    }

    private static void desk() {
        Checks.part("promise 28");
        CavershamShift x = post();
        x.station(30, 9, 0, 1, 0, ALL_DAY);
        x.station(40, 9, 0, 2, 0, ALL_DAY);
        x.monitor(99999);
        x.monitor(99999);
        x.jammer(90, 1);
        x.reader(63, 65535);
        x.partner(4);
        x.call();
        for (int hour = 0; hour < 3; hour++) {
            for (int set = 0; set < 3; set++) {
                x.shift(hour, set, set, set);
            }
            x.talk(0, hour, 0, 300, 5, 0);
            x.talk(1, hour, 0, 300, hour, 0);
            x.talk(2, hour, 0, 300, 5 - hour, 0);
        }
        x.pass(30);
        int[] due = {30, 1, 6, 3, 1, 3, 9, 9, 0, 3, 0, 3, 3, 600 - x.ofReport(6, 1), 0, 0, 1, 4, 1};
        for (int what = 0; what < 19; what++) {
            Checks.due("desk(" + what + ")", x.desk(what), due[what]);
        }
        x.print(0, 1);
        Checks.due("desk(14)", x.desk(14), 1);
        x.pass(1);
        Checks.due("desk(14)", x.desk(14), 0);
        Checks.due("desk(15)", x.desk(15), 1);
        Checks.badArgument(x, "desk(19)", () -> x.desk(19));
        Checks.badArgument(x, "desk(-1)", () -> x.desk(-1));
    }

    private static void tell() {
        Checks.part("promise 29");
        CavershamShift x = post();
        x.station(30, 9, 0, 1, 0, ALL_DAY);
        x.station(40, 9, 0, 2, 0, ALL_DAY);
        x.monitor(99999);
        x.monitor(99999);
        x.partner(4);
        for (int hour = 0; hour < 2; hour++) {
            for (int set = 0; set < 3; set++) {
                x.shift(hour, set, set, set);
            }
        }
        x.talk(1, 0, 0, 300, 6, 0);
        x.talk(0, 0, 0, 300, 5, 0);
        x.talk(2, 0, 0, 300, 3, 0);
        x.talk(0, 1, 0, 300, 5, 0);
        x.talk(1, 1, 0, 30, 9, 0);
        x.talk(2, 1, 0, 300, 2, 0);
        x.talk(0, 2, 0, 300, 9, 0);
        x.talk(2, 719, 0, 300, 9, 0);
        Checks.due("tell(0)", x.tell(0), "0: 1 at 0, to come");
        x.pass(3);
        Checks.due("tell(0)", x.tell(0), "0: 1 at 0, text sent");
        Checks.due("tell(2)", x.tell(2), "2: 2 at 0, summary given");
        Checks.due("tell(3)", x.tell(3), "3: 0 at 1, text");
        Checks.due("tell(4)", x.tell(4), "4: 1 at 1, flash");
        Checks.due("tell(5)", x.tell(5), "5: 2 at 1, dropped");
        Checks.due("tell(6)", x.tell(6), "6: 0 at 2, missed");
        Checks.due("tell(7)", x.tell(7), "7: 2 at 719, to come");
        x.pass(22);
        Checks.due("tell(4)", x.tell(4), "4: 1 at 1, flash sent");
        Checks.outOfBounds(x, "tell(8)", () -> x.tell(8));
        Checks.outOfBounds(x, "tell(-1)", () -> x.tell(-1));
        tellStale();
    }

    private static void tellStale() {
        CavershamShift x = post();
        sit(x, 0, 2);
        for (int hour = 0; hour < 3; hour++) {
            x.talk(0, hour, 0, 300, 7 - hour, 0);
        }
        for (int set = 1; set < 3; set++) {
            x.station(20 * set + 20, 9, 0, 0, 0, ALL_DAY);
            x.monitor(99999);
            for (int hour = 0; hour < 3; hour++) {
                x.shift(hour, set, set, set);
                x.talk(set, 24 + hour, 0, 300, 9 - hour, 0);
                x.talk(set, hour, 0, 300, 5, 0);
            }
        }
        x.pass(26);
        Checks.due("tell(0)", x.tell(0), "0: 0 at 0, text sent");
        Checks.due("tell(4)", x.tell(4), "4: 1 at 0, text sent");
        Checks.due("tell(10)", x.tell(10), "10: 2 at 0, text stale");
    }

    private static void best() {
        Checks.part("promise 30");
        CavershamShift x = new CavershamShift();
        Checks.due("nobody", x.best(0), 0);
        x.station(10, 9, 0, 0, 0, ALL_DAY);
        Checks.due("no monitor", x.best(0), 0);
        x.monitor(9);
        Checks.due("one", x.best(0), 18);
        x.monitor(9);
        Checks.due("one station but once", x.best(0), 18);
        x.station(20, 5, 0, 0, 0, ALL_DAY - 1);
        Checks.due("one off the air", x.best(0), 18);
        Checks.due("two", x.best(1), 32);
        x.station(30, 6, 0, 0, 1, ALL_DAY);
        x.station(40, 7, 0, 0, 2, ALL_DAY);
        x.monitor(70);
        x.monitor(708);
        Checks.due("three sets", x.best(1), 18 + 14 + 14);
        Checks.due("by the last hour", x.best(23), 18 + 14 + 14);
        x.pass(1);
        Checks.due("by another hour", x.best(0), 18 + 13 + 14);
        Checks.outOfBounds(x, "best(24)", () -> x.best(24));
        Checks.outOfBounds(x, "best(-1)", () -> x.best(-1));
    }

    private static void bestAt() {
        Checks.part("promise 31");
        CavershamShift x = new CavershamShift();
        bestShift(x, 0, new int[] {NONE, NONE, NONE, NONE, NONE, NONE});
        x.station(10, 1, 0, 0, 0, ALL_DAY);
        x.station(20, 9, 0, 0, 0, ALL_DAY);
        x.station(30, 9, 0, 0, 1, ALL_DAY - 1);
        x.monitor(9);
        bestShift(x, 0, new int[] {1, 0, NONE, NONE, NONE, NONE});
        x.monitor(9);
        bestShift(x, 0, new int[] {0, 0, 1, 1, NONE, NONE});
        x.monitor(92);
        bestShift(x, 0, new int[] {0, 0, 1, 1, NONE, NONE});
        bestShift(x, 1, new int[] {0, 0, 1, 1, 2, 2});
        bestShift(x, 23, new int[] {0, 0, 1, 1, 2, 2});
        x.drift(2, 11);
        bestShift(x, 1, new int[] {1, 0, 2, 2, NONE, NONE});
        Checks.outOfBounds(x, "bestAt(24, 0, true)", () -> x.bestAt(24, 0, true));
        Checks.outOfBounds(x, "bestAt(-1, 0, true)", () -> x.bestAt(-1, 0, true));
        Checks.outOfBounds(x, "bestAt(0, 3, false)", () -> x.bestAt(0, 3, false));
        Checks.outOfBounds(x, "bestAt(0, -1, false)", () -> x.bestAt(0, -1, false));
    }

    private static void bestShift(CavershamShift x, int hour, int[] due) {
        for (int set = 0; set < 3; set++) {
            Checks.due("bestAt(" + hour + ", " + set + ", false)", x.bestAt(hour, set, false), due[2 * set]);
            Checks.due("bestAt(" + hour + ", " + set + ", true)", x.bestAt(hour, set, true), due[2 * set + 1]);
        }
    }

    private static void wouldHear() {
        Checks.part("promise 32");
        CavershamShift x = post();
        x.monitor(5);
        x.shift(3, 2, 0, 1);
        x.shift(3, 1, 0, 0);
        x.talk(0, 3, 0, 10, 5, 0);
        x.talk(0, 4, 0, 10, 5, 0);
        x.talk(0, 51, 0, 10, 5, 0);
        Checks.due("wouldHear(0)", x.wouldHear(0), 18);
        Checks.due("nobody sits", x.wouldHear(1), 0);
        Checks.due("on another day", x.wouldHear(2), 18);
        x.shift(3, 1, NONE, NONE);
        Checks.due("wouldHear(0)", x.wouldHear(0), 14);
        x.jammer(10, 9);
        Checks.due("jammed", x.wouldHear(0), 6);
        x.jammer(11, 2);
        Checks.due("jammed", x.wouldHear(0), 0);
        x.pass(3);
        Checks.due("in its hour", x.wouldHear(0), 0);
        x.pass(1);
        Checks.badState(x, "wouldHear(0)", () -> x.wouldHear(0));
        Checks.outOfBounds(x, "wouldHear(3)", () -> x.wouldHear(3));
        Checks.outOfBounds(x, "wouldHear(-1)", () -> x.wouldHear(-1));
    }

    private static void wouldSend() {
        Checks.part("promise 33");
        CavershamShift x = post();
        sit(x, 0, 5);
        Checks.due("wouldSend()", x.wouldSend(), 0);
        int[] words = {300, 300, 90, 90, 90, 90};
        for (int hour = 0; hour < 6; hour++) {
            x.talk(0, hour, 0, words[hour], 5, 3);
        }
        Checks.due("talks of this hour are left out", x.wouldSend(), 0);
        x.pass(6);
        Checks.due("no words", x.wouldSend(), 0);
        x.pass(18);
        Checks.due("wouldSend()", x.wouldSend(), 4);
        Checks.due("desk(9)", x.desk(9), 2);
        Checks.due("it changes nothing", x.wouldSend(), 4);
        x.print(0, 4);
        Checks.due("words for corrections", x.wouldSend(), 4);
        Checks.due("desk(14)", x.desk(14), 1);
        x.pass(1);
        Checks.due("desk(9)", x.desk(9), 6);
        wouldSendBehindCorrections();
        wouldSendAtTheEnd();
    }

    private static void wouldSendBehindCorrections() {
        CavershamShift x = post();
        sit(x, 0, 4);
        int[] words = {300, 300, 300, 300, 60};
        for (int hour = 0; hour < 5; hour++) {
            x.talk(0, hour, 0, words[hour], 5, 3);
        }
        x.pass(24);
        Checks.due("the lengths that wait", x.ofReport(2, 1) + x.ofReport(3, 1) + x.ofReport(4, 1), 283 + 266 + 50);
        Checks.due("wouldSend()", x.wouldSend(), 3);
        x.print(0, 8);
        Checks.due("behind a correction", x.wouldSend(), 2);
        x.print(1, 8);
        x.pass(1);
        Checks.due("ofReport(4, 5)", x.ofReport(4, 5), 0);
        Checks.due("desk(13)", x.desk(13), 600 - 20 - 283 - 266);
    }

    private static void wouldSendAtTheEnd() {
        CavershamShift x = post();
        x.station(30, 9, 0, 1, 0, ALL_DAY);
        x.station(40, 9, 0, 2, 0, ALL_DAY);
        x.monitor(99999);
        x.monitor(99999);
        for (int i = 0; i < 14; i++) {
            x.pass(48);
        }
        x.pass(24);
        for (int set = 0; set < 3; set++) {
            x.shift(22, set, set, set);
            x.shift(0, set, set, set);
            x.talk(set, 696, 0, 300, 5, 0);
            x.talk(set, 718, 0, 300, 5, 0);
        }
        x.pass(24);
        Checks.due("desk(0)", x.desk(0), 720);
        Checks.due("desk(8)", x.desk(8), 4);
        Checks.due("one is stale then, two fit", x.wouldSend(), 2);
    }

    private static void isSound() {
        Checks.part("promise 34");
        CavershamShift x = post();
        sit(x, 0, 23);
        x.reader(63, 65535);
        for (int hour = 0; hour < 40; hour++) {
            x.talk(0, hour, hour % 16, 300, hour % 10, 7);
            x.print(hour, hour);
        }
        for (int hour = 0; hour < 48; hour++) {
            Checks.due("isSound()", x.isSound(), true);
            x.pass(1);
        }
        Checks.due("isSound()", x.isSound(), true);
    }

    private static void digest() {
        Checks.part("promise 35");
        long d = 58269;
        for (int what = 0; what <= 18; what++) {
            d = d * 31 + (what == 13 ? 600 : 0);
        }
        for (int set = 0; set < 3; set++) {
            d = (d * 31 - 1) * 31 - 1;
        }
        for (int land = 0; land < 6; land++) {
            d = d * 31 * 31;
        }
        for (int topic = 0; topic < 16; topic++) {
            d = d * 31 - 1;
        }
        d = d * 31 * 31 * 31 + 1;
        CavershamShift x = new CavershamShift();
        Checks.due("digest() of a new object", x.digest(), d);
        Checks.due("digest() changes nothing", x.digest(), d);
        x.call();
        Checks.due("digest() tells a change", x.digest() != d, true);
        for (int prints = 0; prints < 10; prints++) {
            Checks.due("digest() by its parts", busyPost(prints).digest(), digestByParts(prints));
        }
    }

    /** The first talks have a print, and three hours went by behind each of these. */
    private static CavershamShift busyPost(int prints) {
        CavershamShift x = post();
        x.station(60, 8, 5, 5, 1, ALL_DAY);
        x.station(61, 7, 4, 3, 2, ALL_DAY);
        x.jammer(61, 1);
        x.monitor(76543);
        x.monitor(22222);
        x.reader(63, 65535);
        x.reader(33, 21845);
        x.partner(8);
        x.call();
        for (int hour = 0; hour < 13; hour++) {
            for (int set = 0; set < 3; set++) {
                x.shift(hour, set, set, (set + hour) % 3);
                x.talk(set, hour, (hour + set) % 16, 300 - 9 * hour, (hour + 3 * set) % 10, 21845 << set & 65535);
            }
        }
        for (int talk = 0; talk < prints; talk++) {
            x.print(talk, 1 << talk);
            x.pass(3);
        }
        return x;
    }

    /** Each talk is asked for on a post of its own, as an object is used for 512 calls at most. */
    private static long digestByParts(int prints) {
        CavershamShift x = busyPost(prints);
        long d = 58269;
        for (int what = 0; what < 19; what++) {
            d = d * 31 + x.desk(what);
        }
        for (int i = 0; i < x.desk(3) * 9; i++) {
            d = d * 31 + x.ofStation(i / 9, i % 9);
        }
        for (int i = 0; i < x.desk(5) * 9; i++) {
            d = d * 31 + x.ofMonitor(i / 9, i % 9);
        }
        for (int i = 0; i < 6; i++) {
            d = d * 31 + x.bestAt(x.desk(2), i / 2, i % 2 == 1);
        }
        for (int talk = 0; talk < x.desk(6); talk++) {
            CavershamShift y = busyPost(prints);
            for (int i = 0; i < 20; i++) {
                d = d * 31 + (i < 8 ? y.ofTalk(talk, i) : y.ofReport(talk, i - 8));
            }
            for (int reader = 0; reader < y.desk(16); reader++) {
                d = d * 31 + y.got(reader, talk);
            }
        }
        for (int i = 0; i < x.desk(16) * 5; i++) {
            d = d * 31 + x.ofReader(i / 5, i % 5);
        }
        for (int land = 0; land < 6; land++) {
            d = (d * 31 + x.gone(land)) * 31 + (long) (64 * x.clarity(land));
        }
        for (int topic = 0; topic < 16; topic++) {
            d = d * 31 + x.first(topic);
        }
        return ((d * 31 + x.best(x.desk(2))) * 31 + x.wouldSend()) * 31 + (x.isSound() ? 1 : 0);
    }
}
