/** A test for each sentence of the document's terms, sections 0 to 7: the boundary cases that it names. */
public final class TermsEdgeTest {
    private static final int ALL_DAY = Edge.ALL_DAY;
    private static final int NONE = Edge.NONE;
    private static final int WAITS = 0;
    private static final int SENT = 1;
    private static final int STALE = 2;
    private static final int GIVEN = 3;
    private static final int DROPPED = 4;

    private TermsEdgeTest() {
    }

    public static void main(String[] args) {
        numbers();
        time();
        dial();
        setsAndMonitors();
        talks();
        reports();
        wire();
        readersAndErrors();
        corrections();
        partner();
        hours();
        lands();
        exceptions();
        Document.allAreNamed("Terms", "0", "1", "2", "3", "4", "5", "6", "7");
        Checks.end("TermsEdgeTest");
    }

    // ---- terms

    private static void numbers() {
        Document.onlyTells("Terms", "Its calls: stations, jammers");
        Document.onlyTells("Terms", "One asks for how strong a station comes");
        calls512();
        roundedTowardZero();
        none();
        sets();
        held();
        Document.sentence("Terms", "the smallest number first");
        CavershamShift x = Edge.desks(3, 0, 0);
        x.reader(63, 65535);
        x.talk(2, 0, 0, 10, 5, 0);
        x.talk(0, 0, 0, 10, 5, 0);
        x.pass(1);
        Checks.due("the talk that is told first, not the smallest station", x.first(0), 0);
    }

    private static void calls512() {
        Document.sentence("What it is", "at most 512 calls after it has been made");
        CavershamShift x = new CavershamShift();
        for (int i = 1; i < 512; i++) {
            x.call();
        }
        Checks.due("the 512th call", x.call(), 512);
    }

    private static void roundedTowardZero() {
        Document.sentence("Terms", "what is divided is rounded toward 0");
        int[][] comes = {{1, 2, -2, 0}, {2, 2, 8, 0}, {1, 0, 10, 1}, {3, 2, 18, 1}, {1, 9, -44, 0}, {2, 4, -4, 0}};
        for (int[] c : comes) {
            CavershamShift x = new CavershamShift();
            x.station(10, c[0], c[1], 0, 0, ALL_DAY);
            x.monitor(1);
            Checks.due("comes", x.comes(0, 12), c[2]);
            Checks.due("quality by a clear of " + c[3], x.quality(0, 0, 12), c[3] == 0 ? 0 : c[3] + 1);
        }
        int[][] caught = {{1, 17, 0}, {1, 18, 1}, {8, 2, 0}, {9, 2, 1}, {17, 2, 1}, {300, 17, 283}, {300, 18, 300}};
        for (int[] c : caught) {
            CavershamShift x = heard(c[1], c[0], 5, 0);
            Checks.due("caught of " + c[0] + " with " + c[1], x.ofReport(0, 2), c[2]);
        }
    }

    /** A talk of these words in hour 0 that was heard with this quality. */
    private static CavershamShift heard(int quality, int words, int weight, int formulas) {
        CavershamShift x = Edge.postOf(quality);
        x.shift(0, 0, 0, 0);
        x.talk(0, 0, 0, words, weight, formulas);
        x.pass(1);
        Checks.due("quality", x.ofReport(0, 9), quality);
        return x;
    }

    private static void none() {
        Document.sentence("Terms", "NONE is -1");
        CavershamShift x = Edge.post();
        x.talk(0, 0, 0, 1, 9, 0);
        int[] answers = {x.sits(0, 0, true), x.sits(0, 0, false), x.ofMonitor(0, 8), x.ofTalk(0, 6), x.first(0),
            x.bestAt(0, 2, true), x.bestAt(0, 2, false), x.shift(0, 0, 0, 0), x.print(0, 1)};
        for (int i = 0; i < answers.length; i++) {
            Checks.due("answer " + i, answers[i], -1);
        }
        Checks.due("ofReport without a report is no NONE", x.ofReport(0, 4), -2);
        x.pass(1);
        Checks.due("none is guessed", x.ofReport(0, 4), -1);
    }

    private static void sets() {
        Document.sentence("Terms", "A set is the sum of 2^k");
        CavershamShift x = new CavershamShift();
        x.station(10, 9, 0, 5, 0, 1 | 1 << 23);
        x.monitor(9);
        x.reader(1 << 5, 1 << 15);
        x.shift(23, 0, 0, 0);
        Checks.due("hour 0 is in it", x.comes(0, 0), 90);
        Checks.due("hour 1 is not", x.comes(0, 1), 0);
        Checks.due("hour 22 is not", x.comes(0, 22), 0);
        Checks.due("hour 23 is in it", x.comes(0, 23), 90);
        x.talk(0, 23, 15, 10, 9, 1 | 1 << 15);
        x.pass(24);
        Checks.due("formulas 0 and 15", x.ofReport(0, 3), 32769);
        Checks.due("land 5 and topic 15", x.got(0, 0), 1);
    }

    private static void held() {
        Document.sentence("Terms", "a, if it is less than a, b, if it is more than b");
        CavershamShift x = Edge.post();
        Edge.sit(x, 0, 15);
        int[] weary = {3, 6, 9, 12, 15, 18, 21, 24, 27, 30, 33, 36, 39, 40, 40, 40, 38, 36};
        for (int hour = 0; hour < weary.length; hour++) {
            x.pass(1);
            Checks.due("weary behind hour " + hour, x.ofMonitor(0, 5), weary[hour]);
        }
        x.monitor(9);
        x.pass(1);
        Checks.due("not below 0", x.ofMonitor(1, 5), 0);
    }

    // ---- 0

    private static void time() {
        Document.sentence("0", "HOUR is 0 at first, 720 at most");
        CavershamShift x = new CavershamShift();
        int[][] times = {{0, 0, 0}, {23, 0, 23}, {24, 1, 0}, {25, 1, 1}, {719, 29, 23}, {720, 30, 0}};
        for (int[] time : times) {
            Edge.passTo(x, time[0]);
            Checks.due("HOUR", x.desk(0), time[0]);
            Checks.due("DAY in hour " + time[0], x.desk(1), time[1]);
            Checks.due("HOUR OF THE DAY in hour " + time[0], x.desk(2), time[2]);
        }
        Edge.refused(() -> Edge.passTo(Edge.post(), 720), "an hour above 720", Edge.STATE, y -> y.pass(1));
        night();
        Document.onlyTells("0", "What comes with an HOUR is told in 6.");
    }

    private static void night() {
        Document.sentence("0", "It is NIGHT from 18 to 23 and from 0 to 5.");
        CavershamShift x = new CavershamShift();
        x.station(49, 1, 4, 0, 0, ALL_DAY);
        int[][] hours = {{0, 11}, {5, 11}, {6, -14}, {17, -14}, {18, 11}, {23, 11}};
        for (int[] hour : hours) {
            Checks.due("comes in hour " + hour[0], x.comes(0, hour[0]), hour[1]);
        }
        Edge.passTo(x, 24 + 17);
        Checks.due("by day in hour 41", x.ofStation(0, 6), -14);
        x.pass(1);
        Checks.due("by night in hour 42", x.ofStation(0, 6), 11);
        x.pass(12);
        Checks.due("by day in hour 54", x.ofStation(0, 6), -14);
    }

    // ---- 1

    private static void dial() {
        stations();
        jammers();
        strength();
        jammed();
        crowded();
        offTheAir();
        clear();
    }

    private static void stations() {
        Document.sentence("1", "STATIONS: at most 8, numbered from 0");
        CavershamShift x = new CavershamShift();
        for (int i = 0; i < 8; i++) {
            Checks.due("the number", x.station(i, 1, 0, 0, 0, 0), i);
        }
        Checks.due("the last one", x.ofStation(7, 0), 7);
        Edge.refused(TermsEdgeTest::fullDial, "the ninth", Edge.STATE, y -> y.station(0, 1, 0, 0, 0, 0));
        int[][] facts = {{0, 1, 0, 0, 0}, {99, 9, 9, 5, 4}};
        for (int[] fact : facts) {
            CavershamShift y = new CavershamShift();
            y.station(fact[0], fact[1], fact[2], fact[3], fact[4], 0);
            for (int what = 0; what < 5; what++) {
                Checks.due("its fact " + what, y.ofStation(0, what), fact[what]);
            }
        }
        onTheAir();
    }

    private static CavershamShift fullDial() {
        CavershamShift x = new CavershamShift();
        for (int i = 0; i < 8; i++) {
            x.station(10 * i, 9, 0, i % 6, i % 5, ALL_DAY);
        }
        return x;
    }

    private static void onTheAir() {
        Document.sentence("1", "a set of HOURS OF THE DAY in which it is on the air");
        int[] sets = {0, 1, 1 << 23, ALL_DAY};
        for (int set : sets) {
            CavershamShift x = new CavershamShift();
            x.station(10, 2, 0, 0, 0, set);
            for (int hour = 0; hour < 24; hour++) {
                int isOn = set >> hour & 1;
                Checks.due("on the air", x.ofStation(0, 5), isOn);
                Checks.due("comes in hour " + hour, x.comes(0, hour), 20 * isOn);
                x.pass(1);
            }
            Checks.due("on the air on the next day", x.ofStation(0, 5), set & 1);
        }
    }

    private static void jammers() {
        Document.sentence("1", "JAMMERS: at most 6, each with a BAND and a POWER (1 to 9; 0: it is off).");
        Edge.Build full = TermsEdgeTest::sixJammers;
        CavershamShift x = full.made();
        Checks.due("six of 1", x.comes(0, 12), 90 - 6 * 8);
        Edge.refused(full, "the seventh", Edge.STATE, y -> y.jammer(10, 1));
        Edge.refused(full, "the seventh of power 0", Edge.STATE, y -> y.jammer(0, 0));
        for (int i = 0; i < 6; i++) {
            x.jam(i, i == 5 ? 9 : 0);
        }
        Checks.due("five are off, one of 9", x.comes(0, 12), 90 - 72);
        x.jam(5, 1);
        Checks.due("one of 1", x.comes(0, 12), 82);
        x.jam(5, 0);
        Checks.due("all are off", x.comes(0, 12), 90);
    }

    private static CavershamShift sixJammers() {
        CavershamShift x = Edge.post();
        for (int i = 0; i < 6; i++) {
            Checks.due("the number", x.jammer(10, 1), i);
        }
        return x;
    }

    private static void strength() {
        Document.sentence("1", "10 * POWER - 6 * FAR; by NIGHT 25 more, if FAR is 4 or more and its BAND is below 50");
        int[][] night = {{0, 1, 3, -8}, {0, 1, 4, 11}, {49, 9, 4, 91}, {50, 9, 4, 66}, {49, 9, 3, 72}, {99, 9, 9, 36},
            {0, 1, 9, -19}, {0, 9, 0, 90}, {50, 1, 3, -8}};
        for (int[] n : night) {
            comes(n, 0);
            comes(n, 23);
        }
        Document.sentence("1", "by day 25 more, if FAR is 4 or more and its BAND is 50 or above");
        int[][] day = {{50, 1, 3, -8}, {50, 1, 4, 11}, {99, 9, 4, 91}, {49, 9, 4, 66}, {50, 9, 3, 72}, {0, 9, 9, 36},
            {99, 1, 9, -19}, {49, 1, 9, -44}, {50, 9, 0, 90}, {49, 1, 3, -8}};
        for (int[] d : day) {
            comes(d, 6);
            comes(d, 17);
        }
    }

    private static void comes(int[] told, int hour) {
        CavershamShift x = new CavershamShift();
        x.station(told[0], told[1], told[2], 0, 0, ALL_DAY);
        String name = "band " + told[0] + ", power " + told[1] + ", far " + told[2] + " in hour " + hour;
        Checks.due(name, x.comes(0, hour), told[3]);
        x.drift(0, 99 - told[0]);
        x.drift(0, told[0]);
        Checks.due(name + ", back from a drift", x.comes(0, hour), told[3]);
    }

    private static void jammed() {
        Document.sentence("1", "less 8 * POWER of each JAMMER whose BAND differs from its own by 1 or less");
        int[][] bands = {{50, 48, 0}, {50, 49, 1}, {50, 50, 1}, {50, 51, 1}, {50, 52, 0}, {0, 99, 0}, {99, 0, 0},
            {0, 0, 1}, {0, 1, 1}, {99, 98, 1}, {99, 97, 0}, {0, 98, 0}};
        for (int[] band : bands) {
            for (int power = 0; power <= 9; power += 3) {
                CavershamShift x = new CavershamShift();
                x.station(band[0], 9, 0, 0, 0, ALL_DAY);
                x.jammer(band[1], power);
                Checks.due("band " + band[0] + " under a jammer of " + power + " on " + band[1], x.comes(0, 12),
                        90 - 8 * power * band[2]);
            }
        }
        CavershamShift x = new CavershamShift();
        x.station(30, 9, 0, 0, 0, ALL_DAY);
        x.jammer(29, 1);
        x.jammer(30, 2);
        x.jammer(31, 3);
        Checks.due("under three", x.comes(0, 12), 90 - 48);
        x.drift(0, 32);
        Checks.due("under one, drifted", x.comes(0, 12), 90 - 24);
    }

    private static void crowded() {
        Document.sentence("1", "less 10 for each other STATION that is on the air in it and whose BAND differs by 1 or less");
        int[][] bands = {{50, 48, 0}, {50, 49, 1}, {50, 50, 1}, {50, 51, 1}, {50, 52, 0}, {0, 99, 0}, {99, 0, 0}};
        for (int[] band : bands) {
            CavershamShift x = new CavershamShift();
            x.station(band[0], 9, 0, 0, 0, ALL_DAY);
            x.station(band[1], 9, 0, 1, 1, 1 << 7);
            Checks.due(band[1] + " next to it", x.comes(0, 7), 90 - 10 * band[2]);
            Checks.due(band[0] + " next to it", x.comes(1, 7), 90 - 10 * band[2]);
            Checks.due("the other is off the air", x.comes(0, 8), 90);
        }
        CavershamShift x = new CavershamShift();
        for (int i = 0; i < 8; i++) {
            x.station(20, 9, 0, 0, 0, ALL_DAY);
        }
        Checks.due("seven others", x.comes(0, 12), 90 - 70);
        Checks.due("seven others", x.comes(7, 12), 90 - 70);
    }

    private static void offTheAir() {
        Document.sentence("1", "0, if it is not on the air; it may be below 0");
        CavershamShift x = new CavershamShift();
        x.station(49, 1, 9, 0, 0, 1 << 12);
        x.station(49, 1, 9, 0, 0, ALL_DAY);
        for (int i = 0; i < 6; i++) {
            x.jammer(48 + i % 3, 9);
        }
        Checks.due("far below 0", x.comes(0, 12), 10 - 54 - 6 * 72 - 10);
        Checks.due("off the air", x.comes(0, 11), 0);
        Checks.due("off the air", x.comes(0, 13), 0);
        Checks.due("off the air in this hour", x.ofStation(0, 6), 0);
    }

    private static void clear() {
        Document.sentence("1", "It is CLEAR with COMES / 10, HELD to 0 and 9");
        int[][] told = {{49, 2, 6, 9, 0}, {49, 3, 6, 19, 1}, {49, 2, 9, -9, 0}, {49, 1, 9, -19, 0}, {49, 9, 4, 91, 9},
            {49, 9, 0, 90, 9}, {49, 9, 1, 84, 8}, {49, 1, 0, 10, 1}, {49, 1, 4, 11, 1}, {49, 2, 2, 8, 0}};
        for (int[] t : told) {
            CavershamShift x = new CavershamShift();
            x.station(t[0], t[1], t[2], 0, 0, ALL_DAY);
            x.monitor(9);
            Checks.due("comes", x.comes(0, 0), t[3]);
            Checks.due("quality with a comes of " + t[3], x.quality(0, 0, 0), t[4] == 0 ? 0 : t[4] + 9);
        }
    }

    // ---- 2

    private static void setsAndMonitors() {
        Document.sentence("2", "SETS: 0 to 2.");
        for (int set : new int[] {0, 2}) {
            CavershamShift x = Edge.post();
            x.shift(0, set, 0, 0);
            Checks.due("at set " + set, x.ofMonitor(0, 8), set);
        }
        for (int set : new int[] {-1, 3}) {
            Edge.refused(Edge::post, "set " + set, Edge.BOUNDS, y -> y.shift(0, set, 0, 0));
        }
        monitors();
        theShift();
        oneSetAtMost();
        weary();
        quality();
    }

    private static void monitors() {
        Document.sentence("2", "MONITORS: at most 5, numbered from 0");
        CavershamShift x = new CavershamShift();
        int[] skills = {0, 99999, 9, 90000, 10203};
        int[][] bySkill = {{0, 0, 0, 0, 0}, {9, 9, 9, 9, 9}, {9, 0, 0, 0, 0}, {0, 0, 0, 0, 9}, {3, 0, 2, 0, 1}};
        for (int i = 0; i < 5; i++) {
            Checks.due("the number", x.monitor(skills[i]), i);
            Checks.due("weary at first", x.ofMonitor(i, 5), 0);
            for (int tongue = 0; tongue < 5; tongue++) {
                Checks.due("skill of " + skills[i] + " for " + tongue, x.ofMonitor(i, tongue), bySkill[i][tongue]);
            }
        }
        Edge.refused(() -> monitorsOnly(5), "the sixth", Edge.STATE, y -> y.monitor(0));
        Edge.let(() -> monitorsOnly(4), "the fifth", y -> y.monitor(0));
    }

    private static CavershamShift monitorsOnly(int count) {
        CavershamShift x = new CavershamShift();
        for (int i = 0; i < count; i++) {
            x.monitor(i);
        }
        return x;
    }

    private static void theShift() {
        Document.sentence("2", "or nothing (at first); it is for all DAYS, till it is written anew");
        CavershamShift x = Edge.post();
        for (int hour = 0; hour < 24; hour++) {
            for (int set = 0; set < 3; set++) {
                Checks.due("station at first", x.sits(hour, set, false), NONE);
                Checks.due("monitor at first", x.sits(hour, set, true), NONE);
            }
        }
        x.shift(23, 2, 0, 0);
        int[] days = {0, 1, 29};
        for (int i = 0; i < days.length; i++) {
            x.talk(0, 24 * days[i] + 23, 0, 10, 2, 0);
            Edge.passTo(x, 24 * days[i] + 24);
            Checks.due("heard on day " + days[i], x.ofReport(i, 7), 2);
        }
        Checks.due("still written", x.sits(23, 2, true), 0);
        CavershamShift y = Edge.post();
        y.shift(23, 2, 0, 0);
        y.talk(0, 23, 0, 10, 2, 0);
        y.talk(0, 47, 0, 10, 2, 0);
        y.pass(24);
        y.shift(23, 2, NONE, NONE);
        y.pass(24);
        Checks.due("heard by the shift before", y.ofTalk(0, 7), 2);
        Checks.due("not heard, as it is written anew", y.ofTalk(1, 7), 1);
    }

    private static void oneSetAtMost() {
        Document.sentence("2", "A MONITOR sits at one SET in an HOUR OF THE DAY at most.");
        for (int set = 0; set < 3; set++) {
            int there = set;
            for (int other = 0; other < 3; other++) {
                int to = other;
                Edge.Build build = () -> {
                    CavershamShift x = Edge.post();
                    x.shift(23, there, 0, 0);
                    return x;
                };
                if (to == there) {
                    Edge.let(build, "anew at set " + to, y -> y.shift(23, to, 0, 0));
                } else {
                    Edge.refused(build, "from set " + there + " to " + to, Edge.STATE, y -> y.shift(23, to, 0, 0));
                }
                Edge.let(build, "in another hour at " + to, y -> y.shift(22, to, 0, 0));
                Edge.let(build, "in the first hour at " + to, y -> y.shift(0, to, 0, 0));
            }
        }
    }

    private static void weary() {
        Document.sentence("2", "who sat at a SET is 3 more WEARY, others 2 less (HELD to 0 and 40)");
        CavershamShift x = Edge.desks(3, 0, 1);
        x.monitor(0);
        x.shift(1, 2, NONE, NONE);
        int[][] due = {{3, 3, 3, 0}, {6, 6, 1, 0}, {4, 4, 0, 0}, {2, 2, 0, 0}, {0, 0, 0, 0}, {0, 0, 0, 0}};
        for (int hour = 0; hour < due.length; hour++) {
            x.pass(1);
            for (int monitor = 0; monitor < 4; monitor++) {
                Checks.due("monitor " + monitor + " behind hour " + hour, x.ofMonitor(monitor, 5), due[hour][monitor]);
            }
        }
        CavershamShift y = Edge.post();
        Edge.sit(y, 0, 23);
        Edge.passTo(y, 13);
        Checks.due("behind 13 hours", y.ofMonitor(0, 5), 39);
        y.pass(1);
        Checks.due("40, not 42", y.ofMonitor(0, 5), 40);
        Edge.passTo(y, 720);
        Checks.due("at the end", y.ofMonitor(0, 5), 40);
        Checks.due("hours sat", y.ofMonitor(0, 6), 720);
    }

    private static void quality() {
        Document.sentence("2", "CLEAR + SKILL for its TONGUE - WEARY / 4, HELD to 0 and 18");
        CavershamShift x = Edge.post();
        Edge.sit(x, 0, 13);
        int[] due = {18, 18, 17, 16, 15, 15, 14, 13, 12, 12, 11, 10, 9, 9, 8};
        for (int hour = 0; hour < due.length; hour++) {
            Checks.due("weary " + x.ofMonitor(0, 5), x.quality(0, 0, 0), due[hour]);
            x.pass(1);
        }
        CavershamShift y = Edge.postOf(2);
        Edge.sit(y, 0, 23);
        int[] low = {2, 2, 1, 0, 0};
        for (int hour = 0; hour < low.length; hour++) {
            Checks.due("weary " + y.ofMonitor(0, 5), y.quality(0, 0, 0), low[hour]);
            y.pass(1);
        }
        Edge.passTo(y, 24);
        Checks.due("not below 0", y.quality(0, 0, 0), 0);
        Document.sentence("2", "0, if it is CLEAR with 0, or the SKILL is 0");
        CavershamShift z = new CavershamShift();
        z.station(10, 9, 0, 0, 1, ALL_DAY);
        z.station(30, 1, 1, 0, 4, ALL_DAY);
        z.station(50, 9, 0, 0, 4, ALL_DAY - 1);
        z.monitor(99909);
        Checks.due("skill 0 for the tongue", z.quality(0, 0, 0), 0);
        Checks.due("clear 0", z.quality(0, 1, 0), 0);
        Checks.due("off the air", z.quality(0, 2, 0), 0);
        Checks.due("on the air", z.quality(0, 2, 1), 18);
    }

    // ---- 3

    private static void talks() {
        Document.sentence("3", "TALKS: at most 40, numbered from 0, each of a STATION, for one HOUR (this one or a later one)");
        CavershamShift x = Edge.post();
        for (int i = 0; i < 40; i++) {
            Checks.due("the number", x.talk(0, 719 - i, 0, 1, 0, 0), i);
        }
        Checks.due("the last one", x.ofTalk(39, 1), 680);
        Edge.refused(() -> talking(40, 0), "the 41st", Edge.STATE, y -> y.talk(0, 0, 0, 1, 0, 0));
        Edge.let(() -> talking(39, 0), "the 40th", y -> y.talk(0, 0, 0, 1, 0, 0));
        Edge.let(() -> talking(1, 7), "this hour", y -> y.talk(0, 7, 0, 1, 0, 0));
        Edge.refused(() -> talking(1, 7), "the hour before", Edge.ARGUMENT, y -> y.talk(0, 6, 0, 1, 0, 0));
        oneInAnHour();
        told();
        records();
        caught();
        heardFormulas();
    }

    /** So many talks from hour 100 on, and HOUR then. */
    private static CavershamShift talking(int count, int hour) {
        CavershamShift x = Edge.post();
        for (int i = 0; i < count; i++) {
            x.talk(0, 100 + i, 0, 1, 0, 0);
        }
        return Edge.passTo(x, hour);
    }

    private static void oneInAnHour() {
        Document.sentence("3", "A STATION has one TALK in an HOUR at most, and only if it is on the air then.");
        Edge.Build build = () -> {
            CavershamShift x = new CavershamShift();
            x.station(10, 9, 0, 0, 0, 1 << 4 | 1 << 5);
            x.station(10, 9, 0, 0, 0, ALL_DAY);
            x.talk(0, 28, 0, 1, 0, 0);
            return x;
        };
        Edge.refused(build, "a second one", Edge.STATE, x -> x.talk(0, 28, 15, 300, 9, 1));
        Edge.let(build, "of another station", x -> x.talk(1, 28, 0, 1, 0, 0));
        Edge.let(build, "in the next hour", x -> x.talk(0, 29, 0, 1, 0, 0));
        Edge.let(build, "on the day before", x -> x.talk(0, 4, 0, 1, 0, 0));
        Edge.refused(build, "just ahead of its hours", Edge.STATE, x -> x.talk(0, 3, 0, 1, 0, 0));
        Edge.refused(build, "just behind its hours", Edge.STATE, x -> x.talk(0, 30, 0, 1, 0, 0));
        Edge.refused(build, "in the last hour of all", Edge.STATE, x -> x.talk(0, 719, 0, 1, 0, 0));
    }

    private static void told() {
        Document.sentence("3", "(told once, behind its HOUR or ahead of it)");
        Edge.Build ahead = () -> {
            CavershamShift x = talking(1, 99);
            x.print(0, 0);
            return x;
        };
        Edge.refused(ahead, "told again", Edge.STATE, x -> x.print(0, 0));
        Edge.let(() -> talking(1, 99), "ahead of it", x -> x.print(0, 65535));
        Edge.let(() -> talking(1, 100), "in its hour", x -> x.print(0, 65535));
        Edge.let(() -> talking(1, 101), "behind it", x -> x.print(0, 65535));
        Edge.let(() -> talking(1, 720), "at the end", x -> x.print(0, 65535));
        Edge.refused(() -> Edge.passTo(ahead.made(), 720), "told again at the end", Edge.STATE, x -> x.print(0, 1));
    }

    private static void records() {
        Document.sentence("3", "with a QUALITY above 0 (of the MONITOR who sits there, by WEARY as it is ahead of that HOUR's end)");
        CavershamShift x = Edge.postOf(2);
        Edge.sit(x, 0, 3);
        x.talk(0, 2, 0, 300, 5, 3);
        x.talk(0, 3, 0, 300, 5, 3);
        Edge.passTo(x, 4);
        Checks.due("quality 1 by a weary of 6, not of 9", x.ofReport(0, 9), 1);
        Checks.due("caught", x.ofReport(0, 2), 16);
        Checks.due("heard", x.ofReport(0, 3), 1);
        Checks.due("guessed", x.ofReport(0, 4), 2);
        Checks.due("quality 0 by a weary of 9", x.ofTalk(1, 7), 1);
        Checks.due("no report", x.ofReport(1, 9), -2);
        Document.sentence("3", "of several that with the greatest QUALITY counts, of these the smallest SET");
        int[][] skills = {{9, 9, 9, 0}, {8, 9, 9, 1}, {8, 8, 9, 2}, {9, 8, 9, 0}, {0, 0, 1, 2}, {0, 1, 0, 1}, {8, 9, 8, 1}};
        for (int[] s : skills) {
            CavershamShift y = new CavershamShift();
            y.station(10, 9, 0, 0, 0, ALL_DAY);
            for (int i = 0; i < 3; i++) {
                y.monitor(s[i]);
                y.shift(0, i, 0, i);
            }
            y.talk(0, 0, 0, 1, 0, 0);
            y.pass(1);
            Checks.due("the set", y.ofReport(0, 7), s[3]);
            Checks.due("the monitor", y.ofReport(0, 8), s[3]);
            Checks.due("reports in all", y.desk(7), 1);
        }
    }

    private static void caught() {
        Document.sentence("3", "CAUGHT are WORDS * QUALITY / 18.");
        int[][] due = {{1, 2, 0}, {1, 18, 1}, {9, 2, 1}, {10, 17, 9}, {300, 2, 33}, {300, 18, 300}, {299, 17, 282}};
        for (int[] d : due) {
            CavershamShift x = heard(d[1], d[0], 6, 0);
            Checks.due("caught", x.ofReport(0, 2), d[2]);
            Checks.due("the length of a text", x.ofReport(0, 1), d[2]);
        }
    }

    private static void heardFormulas() {
        Document.sentence("3", "HEARD whose number is below QUALITY; if it has the one with the number QUALITY (14 or less)");
        for (int quality = 2; quality <= 18; quality++) {
            for (int formula = 0; formula < 16; formula++) {
                CavershamShift x = heard(quality, 18, 6, 1 << formula);
                boolean isGuessed = formula == quality && quality <= 14;
                Checks.due(formula + " heard with " + quality, x.ofReport(0, 3), formula < quality ? 1 << formula : 0);
                Checks.due(formula + " guessed with " + quality, x.ofReport(0, 4), isGuessed ? quality + 1 : NONE);
            }
        }
        CavershamShift x = heard(14, 18, 6, 65535);
        Checks.due("heard of all with 14", x.ofReport(0, 3), 16383);
        Checks.due("guessed of all with 14", x.ofReport(0, 4), 15);
        CavershamShift y = heard(15, 18, 6, 65535);
        Checks.due("heard of all with 15", y.ofReport(0, 3), 32767);
        Checks.due("guessed of all with 15", y.ofReport(0, 4), NONE);
        CavershamShift z = heard(16, 18, 6, 65535);
        Checks.due("heard of all with 16", z.ofReport(0, 3), 65535);
        CavershamShift none = heard(2, 18, 6, 0);
        Checks.due("heard of none", none.ofReport(0, 3), 0);
        Checks.due("guessed of none", none.ofReport(0, 4), NONE);
    }

    // ---- 4

    private static void reports() {
        Document.sentence("4", "Of each TALK with a RECORD there is one REPORT");
        CavershamShift x = Edge.desks(3, 1, 1);
        x.talk(2, 1, 0, 10, 0, 0);
        x.talk(0, 0, 0, 10, 0, 0);
        x.talk(1, 1, 0, 10, 0, 0);
        x.pass(1);
        Checks.due("none yet", x.desk(7), 0);
        x.pass(1);
        Checks.due("two in all", x.desk(7), 2);
        Checks.due("that of talk 0", x.ofReport(0, 7), 2);
        Checks.due("none of talk 1", x.ofReport(1, 7), -2);
        Checks.due("that of talk 2", x.ofReport(2, 7), 1);
        Document.sentence("4", "3 FLASH (8 or more), 2 TEXT (5 or more), 1 SUMMARY (3 or more), 0 DROPPED");
        int[] sorts = {0, 0, 0, 1, 1, 2, 2, 2, 3, 3};
        for (int weight = 0; weight < 10; weight++) {
            Checks.due("the sort by " + weight, heard(18, 10, weight, 0).ofReport(0, 0), sorts[weight]);
        }
        lengths();
        Document.sentence("4", "FORMULAS of a REPORT: those HEARD, and the one GUESSED (told apart).");
        CavershamShift y = heard(5, 10, 9, 32 | 16 | 1);
        Checks.due("heard", y.ofReport(0, 3), 17);
        Checks.due("guessed", y.ofReport(0, 4), 6);
        Checks.due("it has both", y.print(0, 65535), 65535 - 64 - 17);
    }

    private static void lengths() {
        Document.sentence("4", "FLASH 20, at most what was CAUGHT; TEXT: what was CAUGHT; SUMMARY a fourth of that; DROPPED 0");
        int[][] due = {{1, 1, 1, 0}, {3, 3, 3, 0}, {4, 4, 4, 1}, {7, 7, 7, 1}, {8, 8, 8, 2}, {19, 19, 19, 4},
            {20, 20, 20, 5}, {21, 20, 21, 5}, {300, 20, 300, 75}};
        for (int[] d : due) {
            Checks.due("flash of " + d[0], heard(18, d[0], 8, 0).ofReport(0, 1), d[1]);
            Checks.due("text of " + d[0], heard(18, d[0], 7, 0).ofReport(0, 1), d[2]);
            Checks.due("summary of " + d[0], heard(18, d[0], 4, 0).ofReport(0, 1), d[3]);
            Checks.due("dropped of " + d[0], heard(18, d[0], 2, 0).ofReport(0, 1), 0);
        }
        Checks.due("flash of nothing", heard(2, 8, 9, 0).ofReport(0, 1), 0);
        Checks.due("text of nothing", heard(2, 8, 5, 0).ofReport(0, 1), 0);
        Checks.due("a flash by what was caught, not said", heard(9, 38, 9, 0).ofReport(0, 1), 19);
    }

    private static void wire() {
        Document.sentence("4", "WIRE: each DAY can send 600 WORDS.");
        CavershamShift x = Edge.desks(3, 0, 0);
        stands(x, new int[] {300, 300, 1}, new int[] {5, 5, 5}, new int[] {SENT, SENT, WAITS}, 0);
        fits();
        order();
        passedOver();
        stale();
        Document.sentence("4", "DROPPED ones never WAIT.");
        CavershamShift y = Edge.desks(3, 0, 0);
        stands(y, new int[] {300, 300, 300}, new int[] {2, 1, 0}, new int[] {DROPPED, DROPPED, DROPPED}, 600);
        Checks.due("none waits", y.desk(8), 0);
        Checks.due("none would be sent", y.wouldSend(), 0);
        y.pass(24);
        Checks.due("none is stale", y.desk(10), 0);
        Checks.due("all are dropped", y.desk(12), 3);
    }

    /** Talks in this hour, one of each station with these words and weights: how they stand behind it. */
    private static void stands(CavershamShift x, int[] words, int[] weights, int[] due, int left) {
        int first = x.desk(6);
        for (int i = 0; i < words.length; i++) {
            x.talk(i, x.desk(0), i, words[i], weights[i], 0);
        }
        x.pass(1);
        for (int i = 0; i < words.length; i++) {
            Checks.due("how " + words[i] + " words of weight " + weights[i] + " stand", x.ofReport(first + i, 5), due[i]);
        }
        Checks.due("words left", x.desk(13), left);
    }

    private static void fits() {
        Document.sentence("4", "as far as the WIRE has WORDS left for all of their LENGTH (that many less then)");
        stands(Edge.desks(3, 0, 0), new int[] {300, 200, 100}, new int[] {5, 5, 5}, new int[] {SENT, SENT, SENT}, 0);
        stands(Edge.desks(3, 0, 0), new int[] {300, 200, 101}, new int[] {5, 5, 5}, new int[] {SENT, SENT, WAITS}, 100);
        stands(Edge.desks(3, 0, 0), new int[] {300, 200, 99}, new int[] {5, 5, 5}, new int[] {SENT, SENT, SENT}, 1);
        stands(Edge.desks(3, 0, 0), new int[] {300, 300, 3}, new int[] {5, 5, 3}, new int[] {SENT, SENT, SENT}, 0);
        stands(Edge.desks(3, 0, 0), new int[] {300, 300, 4}, new int[] {5, 5, 3}, new int[] {SENT, SENT, WAITS}, 0);
    }

    private static void order() {
        Document.sentence("4", "the greatest SORT first, then the greatest WEIGHT, then the smallest TALK");
        int[][] weights = {{3, 5, 8}, {8, 5, 3}, {4, 5, 4}, {7, 8, 7}, {3, 4, 3}, {5, 6, 7}, {7, 7, 7}, {8, 9, 9}, {3, 3, 3}, {5, 6, 6}};
        int[][] due = {{2, 1, 0}, {0, 1, 2}, {1, 0, 2}, {1, 0, 2}, {1, 0, 2}, {2, 1, 0}, {0, 1, 2}, {1, 2, 0}, {0, 1, 2}, {1, 2, 0}};
        for (int i = 0; i < weights.length; i++) {
            for (int ahead = 0; ahead < 2; ahead++) {
                CavershamShift x = Edge.desks(3, 0, 0);
                for (int k = 0; k < 3; k++) {
                    boolean isOn = k == due[i][ahead] || k == due[i][ahead + 1];
                    x.talk(k, 0, isOn ? 7 : 8, 10, weights[i][k], 0);
                }
                x.pass(1);
                String name = "first of " + weights[i][0] + ", " + weights[i][1] + ", " + weights[i][2];
                Checks.due(name + " from place " + ahead, x.first(7), due[i][ahead]);
            }
        }
    }

    private static void passedOver() {
        Document.sentence("4", "one that is too long is passed over");
        CavershamShift x = Edge.desks(3, 0, 3);
        stands(x, new int[] {300, 290, 100}, new int[] {5, 5, 5}, new int[] {SENT, SENT, WAITS}, 10);
        stands(x, new int[] {20, 11, 10}, new int[] {9, 7, 6}, new int[] {WAITS, WAITS, SENT}, 0);
        Checks.due("first too long, it waits on", x.ofReport(2, 5), WAITS);
        x.pass(22);
        Checks.due("a new day", x.desk(13), 600);
        x.pass(1);
        Checks.due("talk 2 is stale", x.ofReport(2, 5), STALE);
        Checks.due("talk 3 is sent", x.ofReport(3, 6), 24);
        Checks.due("talk 4 is sent", x.ofReport(4, 6), 24);
        Checks.due("words left", x.desk(13), 600 - x.ofReport(3, 1) - x.ofReport(4, 1));
    }

    private static void stale() {
        Document.sentence("4", "one of a TALK of the HOUR h is STALE as the HOUR h + 24 is over, ahead of that (it is never sent)");
        CavershamShift x = Edge.desks(3, 0, 0);
        stands(x, new int[] {300, 300, 300}, new int[] {5, 5, 5}, new int[] {SENT, SENT, WAITS}, 0);
        Edge.passTo(x, 24);
        Checks.due("as the hour h + 23 is over", x.ofReport(2, 5), WAITS);
        Checks.due("words of the new day", x.desk(13), 600);
        x.pass(1);
        Checks.due("as the hour h + 24 is over", x.ofReport(2, 5), STALE);
        Checks.due("no words for it", x.desk(13), 600);
        Checks.due("it waits no more", x.desk(8), 0);
        Edge.passTo(x, 72);
        Checks.due("never sent", x.ofReport(2, 5), STALE);
        Checks.due("sent in no hour", x.ofReport(2, 6), NONE);
        for (int place = 0; place < 3; place++) {
            int[] weights = {6, 6, 6};
            int[] due = {SENT, SENT, SENT};
            weights[place] = 5;
            due[place] = WAITS;
            CavershamShift other = Edge.desks(3, 0, 0);
            stands(other, new int[] {300, 300, 300}, weights, due, 0);
            Edge.passTo(other, 25);
            Checks.due("talk " + place + " of three", other.ofReport(place, 5), STALE);
        }
        CavershamShift y = Edge.desks(3, 1, 1);
        y.pass(1);
        stands(y, new int[] {300, 300, 300}, new int[] {5, 5, 5}, new int[] {SENT, SENT, WAITS}, 0);
        Edge.passTo(y, 25);
        Checks.due("sent as the hour h + 23 is over", y.ofReport(2, 5), SENT);
        Checks.due("in that hour", y.ofReport(2, 6), 24);
        Edge.passTo(y, 48);
        Checks.due("sent ones are not stale", y.desk(10), 0);
    }

    // ---- 5

    private static void readersAndErrors() {
        Document.sentence("5", "READERS: at most 4, numbered from 0, each with a set of LANDS and a set of TOPICS");
        CavershamShift x = new CavershamShift();
        for (int i = 0; i < 4; i++) {
            Checks.due("the number", x.reader(i, 3 * i), i);
        }
        Checks.due("the lands of the last", x.ofReader(3, 0), 3);
        Checks.due("the topics of the last", x.ofReader(3, 1), 9);
        Edge.refused(() -> readersOnly(4), "the fifth", Edge.STATE, y -> y.reader(0, 0));
        Edge.let(() -> readersOnly(3), "the fourth", y -> y.reader(0, 0));
        whoHasIt();
        errors();
        Document.sentence("5", "If there is no PRINT, there is no ERROR.");
        CavershamShift z = heard(2, 18, 9, 65535);
        Checks.due("misheard, without a print", z.ofReport(0, 10), 0);
        Checks.due("no correction", z.desk(14), 0);
    }

    private static CavershamShift readersOnly(int count) {
        CavershamShift x = new CavershamShift();
        for (int i = 0; i < count; i++) {
            x.reader(63, 65535);
        }
        return x;
    }

    private static void whoHasIt() {
        Document.sentence("5", "As a REPORT is sent, each READER whose sets have the LAND of its STATION and its TOPIC HAS it.");
        for (int land = 0; land < 6; land += 5) {
            for (int topic = 0; topic < 16; topic += 15) {
                CavershamShift x = new CavershamShift();
                x.station(10, 9, 0, land, 0, ALL_DAY);
                x.monitor(9);
                x.shift(0, 0, 0, 0);
                x.reader(1 << land, 1 << topic);
                x.reader(63 - (1 << land), 65535);
                x.reader(63, 65535 - (1 << topic));
                x.talk(0, 0, topic, 10, 5, 0);
                x.pass(1);
                x.reader(63, 65535);
                int[] due = {1, 0, 0, 0};
                for (int reader = 0; reader < 4; reader++) {
                    Checks.due("reader " + reader + " of land " + land, x.got(reader, 0), due[reader]);
                }
            }
        }
        CavershamShift y = Edge.desks(3, 0, 0);
        y.reader(63, 65535);
        stands(y, new int[] {300, 290, 11}, new int[] {5, 5, 5}, new int[] {SENT, SENT, WAITS}, 10);
        y.reader(0, 0);
        y.ask(0, 0, 65535);
        Checks.due("has what was sent", y.got(0, 1), 1);
        Checks.due("has not what waits", y.got(0, 2), 0);
        Checks.due("told too late", y.got(1, 1), 0);
    }

    private static void errors() {
        Document.sentence("5", "has a GUESSED FORMULA that is not in the PRINT of its TALK, or a FORMULA of the PRINT that it has not");
        int[][] due = {{3, 0, 0, 0}, {3, 3, 0, 0}, {3, 1, 0, 0}, {3, 4, 1, 4}, {3, 32768, 1, 32768}, {0, 0, 0, 0},
            {4, 0, 1, 0}, {4, 8, 0, 0}, {4, 12, 1, 4}, {4, 4, 1, 4}, {7, 11, 0, 0}, {7, 3, 1, 0}, {7, 7, 1, 4}, {8, 8, 1, 8},
            {8, 0, 0, 0}};
        for (int[] d : due) {
            CavershamShift x = heard(2, 18, 9, d[0]);
            Checks.due("what it has not of " + d[1], x.print(0, d[1]), d[3]);
            Checks.due("of " + d[0] + ", printed " + d[1], x.ofReport(0, 10), d[2]);
            Checks.due("its correction", x.ofReport(0, 11), d[2]);
            Checks.due("sound", x.isSound(), true);
        }
        Document.sentence("5", "An ERROR: a REPORT that was sent");
        CavershamShift x = Edge.desks(3, 0, 0);
        x.partner(4);
        stands(x, new int[] {300, 300, 300}, new int[] {6, 2, 5}, new int[] {SENT, DROPPED, GIVEN}, 300);
        for (int talk = 0; talk < 3; talk++) {
            x.print(talk, 1);
            Checks.due("in error", x.ofReport(talk, 10), talk == 0 ? 1 : 0);
        }
        Checks.due("corrections", x.desk(14), 1);
        CavershamShift y = Edge.desks(3, 0, 0);
        stands(y, new int[] {300, 300, 300}, new int[] {5, 5, 5}, new int[] {SENT, SENT, WAITS}, 0);
        y.print(2, 1);
        Checks.due("one that waits", y.ofReport(2, 10), 0);
        y.pass(24);
        Checks.due("a stale one", y.ofReport(2, 5), STALE);
        Checks.due("a stale one", y.ofReport(2, 10), 0);
        Checks.due("no correction", y.desk(14) + y.desk(15), 0);
    }

    private static void corrections() {
        Document.sentence("5", "As a PRINT is told of a TALK whose REPORT was sent and is in ERROR, or a REPORT is sent that is in ERROR");
        CavershamShift x = Edge.post();
        Edge.sit(x, 0, 1);
        x.talk(0, 0, 0, 10, 5, 0);
        x.talk(0, 1, 0, 10, 5, 0);
        x.print(1, 1);
        x.pass(1);
        x.print(0, 1);
        Checks.due("as a print is told", x.ofReport(0, 11), 1);
        Checks.due("that of a talk to come", x.ofReport(1, 11), -2);
        x.pass(1);
        Checks.due("sent, an hour later", x.ofReport(0, 11), 2);
        Checks.due("as a report is sent", x.ofReport(1, 11), 1);
        Checks.due("waits", x.desk(14), 1);
        x.pass(1);
        Checks.due("sent, an hour later", x.ofReport(1, 11), 2);
        Checks.due("still in error", x.ofReport(1, 10), 1);
        Checks.due("waits", x.desk(14), 0);
        Checks.due("sent", x.desk(15), 2);
        x.pass(24);
        Checks.due("sent but once", x.desk(15), 2);
        tenWords();
        aheadOfReports();
        whoHasTheCorrection();
    }

    private static void tenWords() {
        Document.sentence("5", "with 10 WORDS of the WIRE each (the first one that has not so many ends that)");
        int[][] due = {{290, 0, 1, 1}, {291, 9, 0, 2}, {289, 1, 1, 1}, {281, 9, 1, 1}, {280, 0, 2, 0}, {300, 0, 0, 2}};
        for (int[] d : due) {
            CavershamShift x = Edge.desks(2, 0, 0);
            stands(x, new int[] {300, d[0]}, new int[] {5, 5}, new int[] {SENT, SENT}, 300 - d[0]);
            x.print(1, 1);
            x.print(0, 1);
            x.pass(1);
            Checks.due("words left of " + (300 - d[0]), x.desk(13), d[1]);
            Checks.due("corrections that are sent", x.desk(15), d[2]);
            Checks.due("corrections that wait", x.desk(14), d[3]);
            Checks.due("in the order in which they began to wait: 1", x.ofReport(1, 11), d[2] >= 1 ? 2 : 1);
            Checks.due("in the order in which they began to wait: 0", x.ofReport(0, 11), d[2] == 2 ? 2 : 1);
            Edge.passTo(x, 24);
            Checks.due("not sent on this day", x.desk(14), d[3]);
            x.pass(1);
            Checks.due("sent on the next day", x.desk(15), 2);
            Checks.due("words of the next day", x.desk(13), 600 - 10 * d[3]);
        }
    }

    private static void aheadOfReports() {
        Document.sentence("5", "they are sent ahead of all REPORTS, in the order in which they began to wait");
        CavershamShift x = Edge.desks(3, 0, 1);
        stands(x, new int[] {300, 290, 2}, new int[] {5, 5, 2}, new int[] {SENT, SENT, DROPPED}, 10);
        x.print(0, 1);
        stands(x, new int[] {10, 10, 1}, new int[] {9, 5, 5}, new int[] {WAITS, WAITS, WAITS}, 0);
        Checks.due("the correction", x.ofReport(0, 11), 2);
        CavershamShift y = Edge.desks(3, 0, 1);
        stands(y, new int[] {300, 281, 2}, new int[] {5, 5, 2}, new int[] {SENT, SENT, DROPPED}, 19);
        y.print(0, 1);
        stands(y, new int[] {10, 9, 1}, new int[] {9, 5, 5}, new int[] {WAITS, SENT, WAITS}, 0);
        CavershamShift z = Edge.desks(3, 0, 0);
        stands(z, new int[] {300, 291, 1}, new int[] {5, 5, 2}, new int[] {SENT, SENT, DROPPED}, 9);
        z.print(0, 1);
        z.shift(1, 0, 0, 0);
        stands(z, new int[] {9}, new int[] {9}, new int[] {SENT}, 0);
        Checks.due("too few words for the correction, enough for the report", z.ofReport(0, 11), 1);
    }

    private static void whoHasTheCorrection() {
        Document.sentence("5", "each READER who HAS the REPORT by then HAS the CORRECTION, too");
        CavershamShift x = Edge.post();
        Edge.sit(x, 0, 0);
        x.reader(1, 1);
        x.reader(2, 1);
        x.talk(0, 0, 0, 10, 5, 0);
        x.pass(1);
        x.print(0, 1);
        x.ask(0, 0, 0);
        x.ask(1, 63, 65535);
        x.reader(63, 65535);
        Checks.due("it waits", x.got(0, 0), 1);
        x.pass(1);
        int[] due = {2, 0, 0};
        for (int reader = 0; reader < 3; reader++) {
            Checks.due("reader " + reader, x.got(reader, 0), due[reader]);
            Checks.due("corrections of " + reader, x.ofReader(reader, 3), due[reader] / 2);
        }
    }

    private static void partner() {
        Document.sentence("5", "The PARTNER has a set of LANDS (none at first).");
        CavershamShift x = Edge.desks(3, 0, 0);
        Checks.due("at first", x.desk(17), 0);
        stands(x, new int[] {10, 10, 10}, new int[] {5, 3, 9}, new int[] {SENT, SENT, SENT}, 578);
        Document.sentence("5", "that are TEXT or SUMMARY are GIVEN to him as they are made: they never WAIT");
        int[] stands = {DROPPED, DROPPED, DROPPED, GIVEN, GIVEN, GIVEN, GIVEN, GIVEN, SENT, SENT};
        for (int weight = 0; weight < 10; weight++) {
            CavershamShift y = Edge.desks(1, 0, 0);
            y.reader(63, 65535);
            y.partner(1);
            y.talk(0, 0, 0, 20, weight, 0);
            y.pass(1);
            Checks.due("weight " + weight, y.ofReport(0, 5), stands[weight]);
            Checks.due("words left", y.desk(13), stands[weight] == SENT ? 580 : 600);
            Checks.due("who has it", y.got(0, 0), stands[weight] == SENT ? 1 : 0);
            Checks.due("none waits", y.desk(8), 0);
            y.pass(24);
            Checks.due("a day later", y.ofReport(0, 5), stands[weight]);
        }
        CavershamShift z = Edge.desks(3, 0, 0);
        z.partner(63);
        z.partner(2);
        stands(z, new int[] {300, 10, 300}, new int[] {5, 5, 5}, new int[] {SENT, GIVEN, SENT}, 0);
        CavershamShift late = Edge.desks(3, 0, 0);
        stands(late, new int[] {300, 300, 300}, new int[] {5, 5, 5}, new int[] {SENT, SENT, WAITS}, 0);
        late.partner(63);
        late.pass(1);
        Checks.due("made ahead of that", late.ofReport(2, 5), WAITS);
        CavershamShift last = new CavershamShift();
        last.station(10, 9, 0, 5, 0, ALL_DAY);
        last.monitor(9);
        last.shift(0, 0, 0, 0);
        last.partner(32);
        stands(last, new int[] {10}, new int[] {7}, new int[] {GIVEN}, 600);
    }

    // ---- 6

    private static void hours() {
        Document.sentence("6", "TALKS of this HOUR, by their numbers: RECORDS and REPORTS; WEARY of all MONITORS");
        CavershamShift x = Edge.post();
        Edge.sit(x, 0, 2);
        x.talk(0, 1, 0, 10, 5, 0);
        x.pass(1);
        Checks.due("not yet", x.desk(7), 0);
        x.pass(1);
        Checks.due("by a weary of 3", x.ofReport(0, 9), 18);
        Checks.due("sent in its own hour", x.ofReport(0, 6), 1);
        Document.sentence("6", "(by who sits in this HOUR OF THE DAY, whether a TALK was heard or not)");
        CavershamShift y = new CavershamShift();
        y.station(10, 9, 0, 0, 0, 0);
        y.monitor(0);
        y.monitor(0);
        y.shift(0, 2, 0, 0);
        y.pass(1);
        Checks.due("who sits without a talk", y.ofMonitor(0, 5), 3);
        Checks.due("hours sat", y.ofMonitor(0, 6), 1);
        Checks.due("who sits not", y.ofMonitor(1, 5), 0);
        y.pass(23);
        Checks.due("on this day", y.ofMonitor(0, 6), 1);
        y.pass(1);
        Checks.due("on the next day", y.ofMonitor(0, 6), 2);
        dayBegins();
    }

    private static void dayBegins() {
        Document.sentence("6", "then HOUR is 1 more; as a DAY begins, the WIRE has 600 WORDS again (what was left is lost)");
        CavershamShift x = Edge.desks(3, 22, 23);
        Edge.passTo(x, 22);
        stands(x, new int[] {300, 30, 30}, new int[] {5, 2, 2}, new int[] {SENT, DROPPED, DROPPED}, 300);
        Checks.due("the last hour of the day", x.desk(2), 23);
        x.talk(0, 23, 0, 100, 5, 0);
        x.pass(1);
        Checks.due("by the words of the day before", x.ofReport(3, 6), 23);
        Checks.due("600, what was left is lost", x.desk(13), 600);
        CavershamShift y = Edge.desks(3, 23, 23);
        Edge.passTo(y, 23);
        stands(y, new int[] {300, 300, 300}, new int[] {5, 5, 5}, new int[] {SENT, SENT, WAITS}, 600);
        y.pass(1);
        Checks.due("sent by the words of the new day", y.ofReport(2, 6), 24);
        Checks.due("words left", y.desk(13), 600 - y.ofReport(2, 1));
        CavershamShift z = Edge.desks(1, 0, 23);
        Edge.passTo(z, 718);
        z.talk(0, 718, 0, 300, 9, 0);
        z.pass(1);
        Checks.due("words left in the last hour", z.desk(13), 600 - z.ofReport(0, 1));
        z.pass(1);
        Checks.due("words at the end", z.desk(13), 600);
    }

    // ---- 7

    private static void lands() {
        Document.sentence("7", "how many REPORTS (of any SORT) there are of TALKS of its STATIONS on these DAYS in which it was HEARD");
        CavershamShift x = Edge.desks(3, 0, 0);
        x.partner(2);
        int[] weights = {9, 5, 3, 0};
        for (int day = 0; day < 4; day++) {
            x.talk(0, 24 * day, 0, 300, weights[day], 1);
            x.talk(1, 24 * day, 0, 300, weights[day], 1);
        }
        Checks.due("to come", x.used(0, 0, 0, 29), 0);
        x.pass(48);
        Checks.due("of two days", x.used(0, 0, 0, 29), 2);
        Edge.passTo(x, 73);
        Checks.due("of any sort", x.used(0, 0, 0, 3), 4);
        Checks.due("given ones", x.used(1, 0, 0, 3), 4);
        Checks.due("of the first day", x.used(0, 0, 0, 0), 1);
        Checks.due("of the last day", x.used(0, 0, 3, 3), 1);
        Checks.due("of no day", x.used(0, 0, 4, 29), 0);
        Checks.due("of another land", x.used(2, 0, 0, 3), 0);
        Checks.due("another formula", x.used(0, 1, 0, 3), 0);
        Document.sentence("7", "(not as a GUESS)");
        CavershamShift y = heard(2, 18, 9, 7);
        int[] used = {1, 1, 0, 0};
        for (int formula = 0; formula < 4; formula++) {
            Checks.due("formula " + formula, y.used(0, formula, 0, 0), used[formula]);
        }
        gone();
        goneByGuess();
        Document.sentence("7", "who calls holds no line, and is REFUSED (counted)");
        CavershamShift z = new CavershamShift();
        Checks.due("at first", z.desk(18), 0);
        Checks.due("the first", z.call(), 1);
        Checks.due("counted", z.desk(18), 1);
    }

    /** Asked on a day, behind its first hour: a talk of land 0 in the first hour of each of these days. */
    private static void goneOn(int day, int[] days, int[] formulas, int due) {
        CavershamShift x = Edge.desks(1, 0, 0);
        for (int i = 0; i < days.length; i++) {
            x.talk(0, 24 * days[i], 0, 10, i % 10, formulas[i]);
        }
        Edge.passTo(x, 24 * day + 1);
        StringBuilder name = new StringBuilder("on day " + day + " by");
        for (int i = 0; i < days.length; i++) {
            name.append(" day ").append(days[i]).append(": ").append(formulas[i]);
        }
        Checks.due(name.toString(), x.gone(0), due);
        Checks.due("another land", x.gone(1), 0);
    }

    private static void gone() {
        Document.sentence("7", "USED 3 times or more in DAY - 9 to DAY - 3, and not at all in DAY - 2 to DAY");
        goneOn(0, new int[] {0}, new int[] {1}, 0);
        goneOn(2, new int[] {0, 1, 2}, new int[] {1, 1, 1}, 0);
        goneOn(9, new int[] {0, 1, 2, 8, 9}, new int[] {1, 1, 1, 0, 0}, 1);
        goneOn(9, new int[] {0, 1, 2, 8, 9}, new int[] {65535, 65535, 65535, 0, 0}, 65535);
        goneOn(9, new int[] {0, 1, 2, 8, 9}, new int[] {32769, 32769, 1, 0, 0}, 1);
        goneOn(9, new int[] {0, 1, 8, 9}, new int[] {1, 1, 0, 0}, 0);
        goneOn(9, new int[] {0, 1, 2, 3, 8, 9}, new int[] {1, 1, 1, 1, 0, 0}, 1);
        goneOn(10, new int[] {0, 1, 2, 9, 10}, new int[] {1, 1, 1, 0, 0}, 0);
        goneOn(10, new int[] {1, 2, 3, 9, 10}, new int[] {1, 1, 1, 0, 0}, 1);
        goneOn(9, new int[] {0, 1, 6, 8, 9}, new int[] {1, 1, 1, 0, 0}, 1);
        goneOn(9, new int[] {0, 1, 7, 8, 9}, new int[] {1, 1, 1, 0, 0}, 0);
        goneOn(9, new int[] {0, 1, 2, 7, 8, 9}, new int[] {1, 1, 1, 1, 0, 0}, 0);
        goneOn(9, new int[] {0, 1, 2, 8, 9}, new int[] {1, 1, 1, 0, 1}, 0);
        goneOn(9, new int[] {0, 1, 2, 8, 9}, new int[] {3, 3, 3, 0, 1}, 2);
        goneOn(29, new int[] {20, 21, 26, 27, 29}, new int[] {4, 4, 4, 0, 0}, 4);
        goneOn(9, new int[] {9, 8, 2, 1, 0}, new int[] {0, 0, 1, 1, 1}, 1);
        Document.sentence("7", "though there are 2 REPORTS or more of TALKS of that LAND in these");
        goneOn(9, new int[] {0, 1, 2}, new int[] {1, 1, 1}, 0);
        goneOn(9, new int[] {0, 1, 2, 9}, new int[] {1, 1, 1, 0}, 0);
        goneOn(9, new int[] {0, 1, 2, 6, 9}, new int[] {1, 1, 1, 0, 0}, 0);
        goneOn(9, new int[] {0, 1, 2, 7, 9}, new int[] {1, 1, 1, 0, 0}, 1);
        goneOn(9, new int[] {0, 1, 2, 7, 8, 9}, new int[] {1, 1, 1, 0, 0, 0}, 1);
        goneOn(9, new int[] {0, 1, 2, 9, 10}, new int[] {1, 1, 1, 0, 0}, 0);
        reportsOfThatLand();
    }

    private static void reportsOfThatLand() {
        CavershamShift x = Edge.desks(2, 0, 1);
        x.station(70, 9, 0, 0, 0, ALL_DAY);
        for (int day = 0; day < 3; day++) {
            x.talk(0, 24 * day, 0, 10, 5, 1);
        }
        x.talk(0, 24 * 4, 0, 10, 5, 0);
        x.talk(1, 24 * 4, 0, 10, 5, 0);
        x.talk(2, 24 * 4, 0, 10, 5, 0);
        x.talk(0, 24 * 5 + 1, 0, 10, 0, 0);
        Edge.passTo(x, 24 * 5 + 1);
        Checks.due("one report of the land, one of another, one talk that is missed", x.gone(0), 0);
        x.pass(1);
        Checks.due("a second one, dropped", x.gone(0), 1);
        CavershamShift y = Edge.desks(1, 0, 0);
        y.station(70, 9, 0, 0, 0, ALL_DAY);
        y.monitor(9);
        y.shift(0, 1, 1, 1);
        for (int day = 0; day < 2; day++) {
            y.talk(0, 24 * day, 0, 10, 5, 2);
        }
        y.talk(1, 24, 0, 10, 5, 2);
        y.talk(0, 24 * 4, 0, 10, 5, 0);
        y.talk(1, 24 * 4, 0, 10, 5, 0);
        Edge.passTo(y, 24 * 4);
        Checks.due("none of late", y.gone(0), 0);
        y.pass(1);
        Checks.due("by two stations of the land", y.gone(0), 2);
    }

    private static void goneByGuess() {
        Document.sentence("7", "A FORMULA is GONE from a LAND, if it was USED");
        for (int guesses = 0; guesses < 2; guesses++) {
            CavershamShift x = Edge.postOf(10);
            x.shift(0, 0, 0, 0);
            x.jammer(10, 0);
            for (int day = 0; day < 3; day++) {
                x.talk(0, 24 * day, 0, 10, 5, day == 2 && guesses == 1 ? 4 : 8);
            }
            x.talk(0, 24 * 5, 0, 10, 5, 4);
            x.talk(0, 24 * 6, 0, 10, 5, 4);
            Edge.passTo(x, 48);
            x.jam(0, guesses == 1 ? 9 : 0);
            Edge.passTo(x, 72);
            x.jam(0, 9);
            Edge.passTo(x, 24 * 6 + 1);
            Checks.due("guessed of late", x.ofReport(4, 4), 3);
            Checks.due("a guess is no use, " + guesses + " of the first", x.gone(0), guesses == 1 ? 0 : 8);
        }
    }

    private static void exceptions() {
        Document.sentence("7", "A method that throws an exception changes nothing.");
        Edge.Build busy = TermsEdgeTest::busyPost;
        Edge.refused(busy, "station", Edge.ARGUMENT, x -> x.station(50, 5, 5, 5, 4, -1));
        Edge.refused(busy, "drift", Edge.ARGUMENT, x -> x.drift(0, 100));
        Edge.refused(busy, "jammer", Edge.ARGUMENT, x -> x.jammer(50, 10));
        Edge.refused(busy, "jam", Edge.ARGUMENT, x -> x.jam(0, 10));
        Edge.refused(busy, "monitor", Edge.ARGUMENT, x -> x.monitor(100000));
        Edge.refused(busy, "shift", Edge.STATE, x -> x.shift(3, 2, 1, 0));
        Edge.refused(busy, "shift to one NONE", Edge.ARGUMENT, x -> x.shift(3, 0, NONE, 0));
        Edge.refused(busy, "talk", Edge.STATE, x -> x.talk(0, 3, 1, 1, 1, 1));
        Edge.refused(busy, "print", Edge.STATE, x -> x.print(0, 7));
        Edge.refused(busy, "reader", Edge.ARGUMENT, x -> x.reader(1, 65536));
        Edge.refused(busy, "ask", Edge.ARGUMENT, x -> x.ask(0, 1, 65536));
        Edge.refused(busy, "partner", Edge.ARGUMENT, x -> x.partner(64));
        Edge.refused(busy, "pass", Edge.ARGUMENT, x -> x.pass(49));
        Edge.refused(() -> Edge.passTo(busy.made(), 719), "pass beyond the end", Edge.STATE, x -> x.pass(2));
        Edge.refused(busy, "wouldHear", Edge.STATE, x -> x.wouldHear(0));
        firstNamed();
    }

    private static CavershamShift busyPost() {
        CavershamShift x = Edge.desks(3, 0, 5);
        x.jammer(10, 1);
        x.reader(63, 65535);
        x.partner(4);
        for (int hour = 0; hour < 4; hour++) {
            for (int i = 0; i < 3; i++) {
                x.talk(i, hour, hour, 300, 9 - hour - i, 65535 >> i);
            }
            x.print(3 * hour, 65535);
        }
        x.pass(3);
        return x;
    }

    private static void firstNamed() {
        Document.sentence("7", "If several exceptions apply, the one that is named first is thrown.");
        Edge.refused(TermsEdgeTest::fullDial, "station", Edge.ARGUMENT, x -> x.station(100, 1, 0, 0, 0, 0));
        Edge.refused(TermsEdgeTest::fullDial, "drift", Edge.BOUNDS, x -> x.drift(8, 100));
        Edge.refused(TermsEdgeTest::sixJammers, "jammer", Edge.ARGUMENT, x -> x.jammer(10, 10));
        Edge.refused(TermsEdgeTest::sixJammers, "jam", Edge.BOUNDS, x -> x.jam(6, 10));
        Edge.refused(() -> monitorsOnly(5), "monitor", Edge.ARGUMENT, x -> x.monitor(100000));
        Edge.Build busy = TermsEdgeTest::busyPost;
        Edge.refused(busy, "shift: hour, one NONE", Edge.BOUNDS, x -> x.shift(24, 0, NONE, 0));
        Edge.refused(busy, "shift: set, elsewhere", Edge.BOUNDS, x -> x.shift(3, 3, 0, 0));
        Edge.refused(busy, "shift: station, elsewhere", Edge.BOUNDS, x -> x.shift(3, 2, 3, 0));
        Edge.refused(busy, "shift: station, one NONE", Edge.BOUNDS, x -> x.shift(3, 2, 3, NONE));
        Edge.refused(busy, "shift: monitor, one NONE", Edge.BOUNDS, x -> x.shift(3, 2, NONE, 3));
        Edge.refused(busy, "shift: one NONE, elsewhere", Edge.ARGUMENT, x -> x.shift(3, 2, NONE, 0));
        Edge.refused(busy, "talk: station, hour", Edge.BOUNDS, x -> x.talk(3, 2, 0, 1, 0, 0));
        Edge.refused(busy, "talk: words, has a talk", Edge.ARGUMENT, x -> x.talk(0, 3, 0, 0, 0, 0));
        Edge.refused(() -> talking(40, 0), "talk: station, 40", Edge.BOUNDS, x -> x.talk(1, 0, 0, 1, 0, 0));
        Edge.refused(() -> talking(40, 0), "talk: topic, 40", Edge.ARGUMENT, x -> x.talk(0, 0, 16, 1, 0, 0));
        Edge.refused(busy, "print: talk, formulas", Edge.BOUNDS, x -> x.print(12, -1));
        Edge.refused(busy, "print: formulas, told", Edge.ARGUMENT, x -> x.print(0, 65536));
        Edge.refused(() -> readersOnly(4), "reader", Edge.ARGUMENT, x -> x.reader(64, 0));
        Edge.refused(() -> readersOnly(4), "ask", Edge.BOUNDS, x -> x.ask(4, 64, 0));
        Edge.refused(() -> Edge.passTo(Edge.post(), 720), "pass", Edge.ARGUMENT, x -> x.pass(0));
        Edge.refused(() -> Edge.passTo(Edge.post(), 719), "pass", Edge.ARGUMENT, x -> x.pass(49));
        Edge.refused(busy, "ofStation", Edge.BOUNDS, x -> x.ofStation(3, 9));
        Edge.refused(busy, "ofMonitor", Edge.BOUNDS, x -> x.ofMonitor(3, 9));
        Edge.refused(busy, "ofTalk", Edge.BOUNDS, x -> x.ofTalk(12, 8));
        Edge.refused(busy, "ofReport", Edge.BOUNDS, x -> x.ofReport(12, 12));
        Edge.refused(busy, "ofReader", Edge.BOUNDS, x -> x.ofReader(1, 5));
    }
}
