import java.util.Map;
import java.util.TreeMap;

/** Long runs of calls, drawn by a fixed rule: each answer is held against the Model's. */
public final class ModelTest {
    private static final int RUNS = 700;
    private static final int CALLS = 512;
    private static final String[] WANTED = {"guessed", "guess in error", "correction by a print", "sent in error",
        "corrected", "no words for a correction", "passed over", "stale", "missed", "gone", "weary 40", "would send",
        "ask for a waiting report", "state 0 of sort 1", "state 0 of sort 2", "state 0 of sort 3", "state 3 of sort 1",
        "state 3 of sort 2", "state 4 of sort 0"};

    private static final int[] ASKED_EVER = {0, -1, 1, 2, 5, 23, 24, 100, Integer.MAX_VALUE, Integer.MIN_VALUE};

    private long seed;
    private int calls;
    private final CavershamShift x = new CavershamShift();
    private final Model y;
    private final int mood;

    private ModelTest(int run, Map<String, Integer> seen) {
        seed = 7919L * run + 17;
        mood = run % 5;
        y = new Model(seen);
    }

    public static void main(String[] args) {
        Map<String, Integer> seen = new TreeMap<>();
        for (int run = 0; run < RUNS; run++) {
            Checks.part("run " + run);
            ModelTest test = new ModelTest(run, seen);
            for (int step = 0; test.calls < CALLS; step++) {
                test.step(step);
            }
        }
        for (String what : WANTED) {
            Checks.part("what the runs reach");
            Checks.due(what, seen.getOrDefault(what, 0) >= 20, true);
        }
        System.out.println(seen);
        Checks.end("ModelTest");
    }

    /** From 0 to below n. */
    private int draw(int n) {
        seed = seed * 6364136223846793005L + 1442695040888963407L;
        return (int) ((seed >>> 33) % n);
    }

    /** Mostly from a to b, at times just outside or far off. */
    private int near(int a, int b) {
        int luck = draw(60);
        if (luck == 0) {
            return a - 1;
        }
        if (luck == 1) {
            return b + 1;
        }
        if (luck == 2) {
            return ASKED_EVER[draw(ASKED_EVER.length)];
        }
        return a + draw(Math.max(1, b - a + 1));
    }

    private interface Told {
        Object on();
    }

    private static Object answer(Told told) {
        try {
            return told.on();
        } catch (RuntimeException e) {
            return Checks.nameOf(e);
        }
    }

    /** What the object answers behind its last call is free: so neither is asked then. */
    private void both(String call, Told byClass, Told byModel) {
        if (calls == CALLS) {
            return;
        }
        calls++;
        Object got = answer(byClass);
        Checks.due(call, String.valueOf(got), String.valueOf(answer(byModel)));
    }

    private void step(int step) {
        if (step < 40) {
            build();
        } else if (draw(10) < 6) {
            goOn();
        } else {
            askSome();
        }
        if (step % 8 == 0) {
            both("digest()", () -> x.digest(), () -> y.digest());
            both("isSound()", () -> x.isSound(), () -> y.isSound());
        }
    }

    private int band() {
        return mood == 1 ? near(40, 60) : near(0, 99);
    }

    private void build() {
        int kind = draw(12);
        if (kind < 2) {
            tellStation();
        } else if (kind < 4) {
            int skills = mood == 2 ? 99999 : draw(4) == 0 ? near(0, 99999) : 10101 * (1 + draw(9)) % 100000;
            both("monitor(" + skills + ")", () -> x.monitor(skills), () -> y.monitor(skills));
        } else if (kind < 5) {
            int lands = draw(2) == 0 ? 63 : near(0, 63);
            int topics = draw(2) == 0 ? 65535 : near(0, 65535);
            both("reader(" + lands + ", " + topics + ")", () -> x.reader(lands, topics), () -> y.reader(lands, topics));
        } else if (kind < 6 && draw(3) == 0) {
            int band = band();
            int power = near(0, 9);
            both("jammer(" + band + ", " + power + ")", () -> x.jammer(band, power), () -> y.jammer(band, power));
        } else {
            writeShift();
        }
    }

    private void tellStation() {
        int band = band();
        int power = mood != 2 && draw(3) == 0 ? near(1, 9) : near(7, 9);
        int far = draw(2) == 0 ? near(0, 9) : near(0, 4);
        int land = mood == 3 ? near(0, 1) : near(0, 5);
        int tongue = near(0, 4);
        int hours = draw(3) == 0 ? near(0, 16777215) : 16777215;
        both("station(" + band + ", " + power + ", " + far + ", " + land + ", " + tongue + ", " + hours + ")",
                () -> x.station(band, power, far, land, tongue, hours),
                () -> y.station(band, power, far, land, tongue, hours));
    }

    private void writeShift() {
        int hour = draw(2) == 0 ? (y.hour + draw(4)) % 24 : near(0, 23);
        int set = near(0, 2);
        boolean isNothing = draw(15) == 0;
        int station = isNothing ? -1 : near(0, y.stations.size() - 1);
        int monitor = isNothing ? -1 : near(0, y.monitors.size() - 1);
        both("shift(" + hour + ", " + set + ", " + station + ", " + monitor + ")",
                () -> x.shift(hour, set, station, monitor), () -> y.shift(hour, set, station, monitor));
    }

    private void goOn() {
        int kind = draw(20);
        if (kind < 5) {
            writeShift();
        } else if (kind < 11) {
            speak();
        } else if (kind < (mood == 2 ? 13 : 14)) {
            tellPrint();
        } else if (kind < 17) {
            int toNextDay = 24 - y.hour % 24;
            int hours = mood == 3 ? near(1, 30) : mood == 4 ? near(1, 8) : near(1, draw(8) == 0 ? 48 : 2);
            if (mood == 2 && hours > 2) {
                hours = toNextDay;
            }
            passHours(hours);
        } else {
            changeSome();
        }
    }

    private void passHours(int hours) {
        both("pass(" + hours + ")", () -> x.pass(hours), () -> y.pass(hours));
    }

    private void speak() {
        int station = near(0, y.stations.size() - 1);
        int hour = draw(10) == 0 ? near(y.hour, 719) : y.hour + near(0, 1);
        if (draw(3) != 0 && !y.stations.isEmpty()) {
            seatFor(Math.floorMod(station, y.stations.size()), Math.floorMod(hour, 24));
        }
        int topic = near(0, 15);
        int words = mood == 2 ? near(250, 300) : near(1, 300);
        int weight = mood == 3 ? near(0, 3) : mood == 2 ? near(4, 8) : near(0, 9);
        int formulas = mood == 3 && draw(4) != 0 ? (y.hour / 24 % 8 < 4 ? 7 : 56) : near(0, 65535);
        both("talk(" + station + ", " + hour + ", " + topic + ", " + words + ", " + weight + ", " + formulas + ")",
                () -> x.talk(station, hour, topic, words, weight, formulas),
                () -> y.talk(station, hour, topic, words, weight, formulas));
    }

    private void seatFor(int station, int hour) {
        int monitor = near(0, y.monitors.size() - 1);
        int set = draw(3);
        both("shift(" + hour + ", " + set + ", " + station + ", " + monitor + ")",
                () -> x.shift(hour, set, station, monitor), () -> y.shift(hour, set, station, monitor));
    }

    private void tellPrint() {
        int talk = near(Math.max(0, y.talks.size() - 6), y.talks.size() - 1);
        boolean isKnown = talk >= 0 && talk < y.talks.size();
        int formulas = isKnown && draw(2) == 0 ? Model.sumOf(y.talks.get(talk).formulas) ^ (1 << draw(17)) >> 1
                : near(0, 65535);
        both("print(" + talk + ", " + formulas + ")", () -> x.print(talk, formulas), () -> y.print(talk, formulas));
    }

    private void changeSome() {
        int a = draw(8) == 0 ? near(0, 8) : near(0, y.stations.size() - 1);
        int band = band();
        int power = near(0, 9);
        int reader = near(0, y.readers.size() - 1);
        int lands = draw(2) == 0 ? 63 : near(0, 63);
        int topics = draw(2) == 0 ? 65535 : near(0, 65535);
        int jammer = near(0, y.jammers.size() - 1);
        switch (draw(6)) {
            case 0:
                both("drift(" + a + ", " + band + ")", () -> x.drift(a, band), () -> y.drift(a, band));
                break;
            case 1:
                both("jam(" + jammer + ", " + power + ")", () -> x.jam(jammer, power), () -> y.jam(jammer, power));
                break;
            case 2:
                both("ask(" + reader + ", " + lands + ", " + topics + ")", () -> x.ask(reader, lands, topics),
                        () -> y.ask(reader, lands, topics));
                break;
            case 3:
                int some = mood == 2 ? 1 : near(0, 63);
                both("partner(" + some + ")", () -> x.partner(some), () -> y.partner(some));
                break;
            case 4:
                both("call()", () -> x.call(), () -> y.call());
                break;
            default:
                build();
        }
    }

    private void askSome() {
        int station = near(0, y.stations.size() - 1);
        int monitor = near(0, y.monitors.size() - 1);
        int reader = near(0, y.readers.size() - 1);
        int talk = near(0, y.talks.size() - 1);
        int what = near(0, 12);
        int hour = near(0, 23);
        int set = near(0, 2);
        int land = near(0, 5);
        int formula = near(0, 15);
        int from = y.hour / 24 - near(0, 9);
        int to = from + near(0, 9);
        boolean is = draw(2) == 0;
        int fact = near(0, 18);
        switch (draw(21)) {
            case 0: both("ofStation " + station + " " + what, () -> x.ofStation(station, what), () -> y.ofStation(station, what)); break;
            case 1: both("comes " + station + " " + hour, () -> x.comes(station, hour), () -> y.comes(station, hour)); break;
            case 2: both("ofMonitor " + monitor + " " + what, () -> x.ofMonitor(monitor, what), () -> y.ofMonitor(monitor, what)); break;
            case 3: both("sits " + hour + " " + set + " " + is, () -> x.sits(hour, set, is), () -> y.sits(hour, set, is)); break;
            case 4: both("quality " + monitor + " " + station + " " + hour, () -> x.quality(monitor, station, hour), () -> y.quality(monitor, station, hour)); break;
            case 5: both("ofTalk " + talk + " " + what, () -> x.ofTalk(talk, what), () -> y.ofTalk(talk, what)); break;
            case 6: both("ofReport " + talk + " " + what, () -> x.ofReport(talk, what), () -> y.ofReport(talk, what)); break;
            case 7: both("got " + reader + " " + talk, () -> x.got(reader, talk), () -> y.got(reader, talk)); break;
            case 8: both("ofReader " + reader + " " + what, () -> x.ofReader(reader, what), () -> y.ofReader(reader, what)); break;
            case 9: both("used " + land + " " + formula + " " + from + " " + to, () -> x.used(land, formula, from, to), () -> y.used(land, formula, from, to)); break;
            case 10: both("gone " + land, () -> x.gone(land), () -> y.gone(land)); break;
            case 11: both("first " + formula, () -> x.first(formula), () -> y.first(formula)); break;
            case 12: both("clarity " + land, () -> x.clarity(land), () -> y.clarity(land)); break;
            case 13: both("desk " + fact, () -> x.desk(fact), () -> y.desk(fact)); break;
            case 14: both("tell " + talk, () -> x.tell(talk), () -> y.tell(talk)); break;
            case 15: both("best " + hour, () -> x.best(hour), () -> y.best(hour)); break;
            case 16: both("bestAt " + hour + " " + set + " " + is, () -> x.bestAt(hour, set, is), () -> y.bestAt(hour, set, is)); break;
            case 17:
            case 18: both("wouldHear " + talk, () -> x.wouldHear(talk), () -> y.wouldHear(talk)); break;
            default: both("wouldSend", () -> x.wouldSend(), () -> y.wouldSend());
        }
    }
}
