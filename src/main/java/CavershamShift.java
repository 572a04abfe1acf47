import java.util.ArrayList;
import java.util.Arrays;

/**
 * Those who listen to many lands at once.
 *
 * <p>A listening post: stations on a dial, monitors at three sets by a shift, talks that are heard
 * well or badly, and a newsroom that sends what was heard by a wire of few words.
 */
public final class CavershamShift {
    private static final int NONE = -1;
    private static final int NO_REPORT = -2;

    private static final int HOURS_OF_DAY = 24;
    private static final int LAST_HOUR = 720;
    private static final int MOST_HOURS_AT_ONCE = 48;

    private static final int MOST_STATIONS = 8;
    private static final int MOST_JAMMERS = 6;
    private static final int MOST_MONITORS = 5;
    private static final int MOST_TALKS = 40;
    private static final int MOST_READERS = 4;
    private static final int SETS = 3;
    private static final int SLOTS = HOURS_OF_DAY * SETS;
    private static final int TONGUES = 5;
    private static final int LANDS = 6;
    private static final int TOPICS = 16;
    private static final int FORMULAS = 16;

    private static final int LAST_BAND = 99;
    private static final int MOST_POWER = 9;
    private static final int MOST_FAR = 9;
    private static final int MOST_WEIGHT = 9;
    private static final int MOST_WORDS = 300;
    private static final int MOST_WEARY = 40;
    private static final int MOST_QUALITY = 18;
    private static final int MOST_CLEAR = 9;
    private static final int MOST_SKILLS = 99999;
    private static final int ALL_HOURS = (1 << HOURS_OF_DAY) - 1;
    private static final int ALL_LANDS = (1 << LANDS) - 1;
    private static final int ALL_TOPICS = (1 << TOPICS) - 1;
    private static final int ALL_FORMULAS = (1 << FORMULAS) - 1;

    private static final int SORT_DROPPED = 0;
    private static final int SORT_SUMMARY = 1;
    private static final int SORT_TEXT = 2;
    private static final int SORT_FLASH = 3;
    private static final int FLASH_WEIGHT = 8;
    private static final int TEXT_WEIGHT = 5;
    private static final int SUMMARY_WEIGHT = 3;
    private static final int FLASH_LENGTH = 20;

    private static final int WAITS = 0;
    private static final int SENT = 1;
    private static final int STALE = 2;
    private static final int GIVEN = 3;
    private static final int DROPPED = 4;

    private static final int CORRECTION_NONE = 0;
    private static final int CORRECTION_WAITS = 1;
    private static final int CORRECTION_SENT = 2;

    private static final int WIRE_WORDS = 600;
    private static final int CORRECTION_WORDS = 10;

    private static final int STATION_FACTS = 9;
    private static final int MONITOR_FACTS = 9;
    private static final int TALK_FACTS = 8;
    private static final int REPORT_FACTS = 12;
    private static final int READER_FACTS = 5;
    private static final int DESK_FACTS = 19;
    private static final long DIGEST_START = 58269L;

    private final Dial dial = new Dial();
    private final Room room = new Room(dial);
    private final Newsroom newsroom = new Newsroom();
    private final Matching matching = new Matching(dial, room);
    private int hour;
    private int refused;

    /** Creates a listening post without stations and monitors. */
    public CavershamShift() {
        hour = 0;
        refused = 0;
    }

    // ---- what is told.

    /** Tells a station; answers its number. */
    public int station(int band, int power, int far, int land, int tongue, int hours)
            throws IllegalArgumentException, IllegalStateException {
        if (isOutside(band, 0, LAST_BAND) || isOutside(power, 1, MOST_POWER) || isOutside(far, 0, MOST_FAR)) {
            throw new IllegalArgumentException("band, power or far");
        }
        if (isOutside(land, 0, LANDS - 1) || isOutside(tongue, 0, TONGUES - 1) || isOutside(hours, 0, ALL_HOURS)) {
            throw new IllegalArgumentException("land, tongue or hours");
        }
        if (dial.stations.size() >= MOST_STATIONS) {
            throw new IllegalStateException("no more stations");
        }
        int number = dial.stations.size();
        dial.stations.add(new Station(number, band, power, far, land, tongue, hours));
        return number;
    }

    /** A station drifts to another band; answers that before. */
    public int drift(int station, int band) throws IndexOutOfBoundsException, IllegalArgumentException {
        Station told = dial.stationAt(station);
        if (told == null) {
            throw new IndexOutOfBoundsException("no such station");
        }
        if (isOutside(band, 0, LAST_BAND)) {
            throw new IllegalArgumentException("band");
        }
        int before = told.band;
        told.band = band;
        return before;
    }

    /** Tells a jammer; answers its number. */
    public int jammer(int band, int power) throws IllegalArgumentException, IllegalStateException {
        if (isOutside(band, 0, LAST_BAND) || isOutside(power, 0, MOST_POWER)) {
            throw new IllegalArgumentException("band or power");
        }
        if (dial.jammers.size() >= MOST_JAMMERS) {
            throw new IllegalStateException("no more jammers");
        }
        int number = dial.jammers.size();
        dial.jammers.add(new Jammer(band, power));
        return number;
    }

    /** Turns a jammer to another power; answers that before. */
    public int jam(int jammer, int power) throws IndexOutOfBoundsException, IllegalArgumentException {
        Jammer told = dial.jammerAt(jammer);
        if (told == null) {
            throw new IndexOutOfBoundsException("no such jammer");
        }
        if (isOutside(power, 0, MOST_POWER)) {
            throw new IllegalArgumentException("power");
        }
        int before = told.power;
        told.power = power;
        return before;
    }

    /** Tells a monitor by the digits of the skills; answers the number. */
    public int monitor(int skills) throws IllegalArgumentException, IllegalStateException {
        if (isOutside(skills, 0, MOST_SKILLS)) {
            throw new IllegalArgumentException("skills");
        }
        if (room.monitors.size() >= MOST_MONITORS) {
            throw new IllegalStateException("no more monitors");
        }
        int number = room.monitors.size();
        room.monitors.add(new Monitor(number, skills));
        return number;
    }

    /** Writes the shift; answers which station it was. */
    public int shift(int hour, int set, int station, int monitor)
            throws IndexOutOfBoundsException, IllegalArgumentException, IllegalStateException {
        if (isOutside(hour, 0, HOURS_OF_DAY - 1) || isOutside(set, 0, SETS - 1)) {
            throw new IndexOutOfBoundsException("hour or set");
        }
        if (station != NONE && dial.stationAt(station) == null) {
            throw new IndexOutOfBoundsException("no such station");
        }
        if (monitor != NONE && room.monitorAt(monitor) == null) {
            throw new IndexOutOfBoundsException("no such monitor");
        }
        if ((station == NONE) != (monitor == NONE)) {
            throw new IllegalArgumentException("a station without a monitor, or a monitor without a station");
        }
        if (monitor != NONE && room.sitsElsewhere(hour, set, monitor)) {
            throw new IllegalStateException("the monitor sits at another set");
        }
        int before = room.stationIn(hour, set);
        room.write(hour, set, station, monitor);
        return before;
    }

    /** Tells a talk; answers its number. */
    public int talk(int station, int hour, int topic, int words, int weight, int formulas)
            throws IndexOutOfBoundsException, IllegalArgumentException, IllegalStateException {
        Station speaker = dial.stationAt(station);
        if (speaker == null) {
            throw new IndexOutOfBoundsException("no such station");
        }
        if (isOutside(hour, this.hour, LAST_HOUR - 1) || isOutside(topic, 0, TOPICS - 1)) {
            throw new IllegalArgumentException("hour or topic");
        }
        if (isOutside(words, 1, MOST_WORDS) || isOutside(weight, 0, MOST_WEIGHT)) {
            throw new IllegalArgumentException("words or weight");
        }
        if (isOutside(formulas, 0, ALL_FORMULAS)) {
            throw new IllegalArgumentException("formulas");
        }
        if (newsroom.talks.size() >= MOST_TALKS) {
            throw new IllegalStateException("no more talks");
        }
        if (!speaker.isOnAir(hour % HOURS_OF_DAY) || newsroom.hasTalk(speaker, hour)) {
            throw new IllegalStateException("the station is not on the air, or has a talk then");
        }
        int number = newsroom.talks.size();
        newsroom.talks.add(new Talk(number, speaker, hour, topic, words, weight, formulas));
        return number;
    }

    /** Tells the print of a talk; answers what the report has not of it. */
    public int print(int talk, int formulas)
            throws IndexOutOfBoundsException, IllegalArgumentException, IllegalStateException {
        Talk told = newsroom.talkAt(talk);
        if (told == null) {
            throw new IndexOutOfBoundsException("no such talk");
        }
        if (isOutside(formulas, 0, ALL_FORMULAS)) {
            throw new IllegalArgumentException("formulas");
        }
        if (told.print != NONE) {
            throw new IllegalStateException("there is a print of it");
        }
        told.print = formulas;
        newsroom.awaitCorrection(told);
        Report report = told.report;
        return report == null ? NONE : formulas & ~report.formulas();
    }

    /** Tells a reader; answers the number. */
    public int reader(int lands, int topics) throws IllegalArgumentException, IllegalStateException {
        if (isOutside(lands, 0, ALL_LANDS) || isOutside(topics, 0, ALL_TOPICS)) {
            throw new IllegalArgumentException("lands or topics");
        }
        if (newsroom.readers.size() >= MOST_READERS) {
            throw new IllegalStateException("no more readers");
        }
        int number = newsroom.readers.size();
        newsroom.readers.add(new Reader(number, lands, topics));
        return number;
    }

    /** A reader asks anew; answers how many reports that wait it would have by that. */
    public int ask(int reader, int lands, int topics) throws IndexOutOfBoundsException, IllegalArgumentException {
        Reader told = newsroom.readerAt(reader);
        if (told == null) {
            throw new IndexOutOfBoundsException("no such reader");
        }
        if (isOutside(lands, 0, ALL_LANDS) || isOutside(topics, 0, ALL_TOPICS)) {
            throw new IllegalArgumentException("lands or topics");
        }
        told.lands = lands;
        told.topics = topics;
        return newsroom.countWaitingFor(told);
    }

    /** Tells the lands of the partner; answers those before. */
    public int partner(int lands) throws IllegalArgumentException {
        if (isOutside(lands, 0, ALL_LANDS)) {
            throw new IllegalArgumentException("lands");
        }
        int before = newsroom.partnerLands;
        newsroom.partnerLands = lands;
        return before;
    }

    /** Lets hours go by, one by one; answers the hour then. */
    public int pass(int hours) throws IllegalArgumentException, IllegalStateException {
        if (isOutside(hours, 1, MOST_HOURS_AT_ONCE)) {
            throw new IllegalArgumentException("hours");
        }
        if (hour + hours > LAST_HOUR) {
            throw new IllegalStateException("the last hour is behind that");
        }
        for (int i = 0; i < hours; i++) {
            endHour();
        }
        return hour;
    }

    /** Calls the switchboard, which sleeps; answers how many were refused ever. */
    public int call() {
        refused++;
        return refused;
    }

    // ---- what is asked.

    /** Answers one fact of a station. */
    public int ofStation(int station, int what) throws IndexOutOfBoundsException, IllegalArgumentException {
        Station asked = dial.stationAt(station);
        if (asked == null) {
            throw new IndexOutOfBoundsException("no such station");
        }
        if (isOutside(what, 0, STATION_FACTS - 1)) {
            throw new IllegalArgumentException("what");
        }
        return stationFact(asked, what);
    }

    /** Answers how strong a station comes in an hour of the day. */
    public int comes(int station, int hour) throws IndexOutOfBoundsException {
        Station asked = dial.stationAt(station);
        if (asked == null || isOutside(hour, 0, HOURS_OF_DAY - 1)) {
            throw new IndexOutOfBoundsException("no such station or hour");
        }
        return dial.strengthOf(asked, hour);
    }

    /** Answers one fact of a monitor. */
    public int ofMonitor(int monitor, int what) throws IndexOutOfBoundsException, IllegalArgumentException {
        Monitor asked = room.monitorAt(monitor);
        if (asked == null) {
            throw new IndexOutOfBoundsException("no such monitor");
        }
        if (isOutside(what, 0, MONITOR_FACTS - 1)) {
            throw new IllegalArgumentException("what");
        }
        return monitorFact(asked, what);
    }

    /** Answers the monitor or the station that the shift has at a set. */
    public int sits(int hour, int set, boolean isMonitor) throws IndexOutOfBoundsException {
        if (isOutside(hour, 0, HOURS_OF_DAY - 1) || isOutside(set, 0, SETS - 1)) {
            throw new IndexOutOfBoundsException("hour or set");
        }
        return isMonitor ? room.monitorIn(hour, set) : room.stationIn(hour, set);
    }

    /** Answers the quality of a monitor for a station in an hour of the day. */
    public int quality(int monitor, int station, int hour) throws IndexOutOfBoundsException {
        Monitor listener = room.monitorAt(monitor);
        Station heard = dial.stationAt(station);
        if (listener == null || heard == null || isOutside(hour, 0, HOURS_OF_DAY - 1)) {
            throw new IndexOutOfBoundsException("no such monitor, station or hour");
        }
        return room.qualityOf(listener, heard, hour);
    }

    /** Answers one fact of a talk. */
    public int ofTalk(int talk, int what) throws IndexOutOfBoundsException, IllegalArgumentException {
        Talk asked = newsroom.talkAt(talk);
        if (asked == null) {
            throw new IndexOutOfBoundsException("no such talk");
        }
        if (isOutside(what, 0, TALK_FACTS - 1)) {
            throw new IllegalArgumentException("what");
        }
        return talkFact(asked, what);
    }

    /** Answers one fact of the report of a talk; -2 without one. */
    public int ofReport(int talk, int what) throws IndexOutOfBoundsException, IllegalArgumentException {
        Talk asked = newsroom.talkAt(talk);
        if (asked == null) {
            throw new IndexOutOfBoundsException("no such talk");
        }
        if (isOutside(what, 0, REPORT_FACTS - 1)) {
            throw new IllegalArgumentException("what");
        }
        return reportFact(asked, what);
    }

    /** Answers 0 if a reader has nothing of a talk, 1 its report, 2 its correction, too. */
    public int got(int reader, int talk) throws IndexOutOfBoundsException {
        Reader asking = newsroom.readerAt(reader);
        Talk asked = newsroom.talkAt(talk);
        if (asking == null || asked == null) {
            throw new IndexOutOfBoundsException("no such reader or talk");
        }
        return asked.reached(asking);
    }

    /** Answers one fact of a reader. */
    public int ofReader(int reader, int what) throws IndexOutOfBoundsException, IllegalArgumentException {
        Reader asked = newsroom.readerAt(reader);
        if (asked == null) {
            throw new IndexOutOfBoundsException("no such reader");
        }
        if (isOutside(what, 0, READER_FACTS - 1)) {
            throw new IllegalArgumentException("what");
        }
        return readerFact(asked, what);
    }

    /** Answers how often a land used a formula from one day to another. */
    public int used(int land, int formula, int from, int to) throws IndexOutOfBoundsException {
        if (isOutside(land, 0, LANDS - 1) || isOutside(formula, 0, FORMULAS - 1)) {
            throw new IndexOutOfBoundsException("no such land or formula");
        }
        return newsroom.countUsed(land, formula, from, to);
    }

    /** Answers the set of formulas that are gone from a land. */
    public int gone(int land) throws IndexOutOfBoundsException {
        if (isOutside(land, 0, LANDS - 1)) {
            throw new IndexOutOfBoundsException("no such land");
        }
        return newsroom.goneFrom(land, day());
    }

    /** Answers the talk of the report on a topic that was sent first. */
    public int first(int topic) throws IndexOutOfBoundsException {
        if (isOutside(topic, 0, TOPICS - 1)) {
            throw new IndexOutOfBoundsException("no such topic");
        }
        return newsroom.firstSentOn(topic);
    }

    /** Answers the mean quality of all reports of a land. */
    public double clarity(int land) throws IndexOutOfBoundsException {
        if (isOutside(land, 0, LANDS - 1)) {
            throw new IndexOutOfBoundsException("no such land");
        }
        return newsroom.meanQuality(land);
    }

    /** Answers one fact of the whole post. */
    public int desk(int what) throws IllegalArgumentException {
        if (isOutside(what, 0, DESK_FACTS - 1)) {
            throw new IllegalArgumentException("what");
        }
        return deskFact(what);
    }

    /** Answers a line about a talk. */
    public String tell(int talk) throws IndexOutOfBoundsException {
        Talk asked = newsroom.talkAt(talk);
        if (asked == null) {
            throw new IndexOutOfBoundsException("no such talk");
        }
        StringBuilder line = new StringBuilder();
        line.append(asked.number);
        line.append(": ");
        line.append(asked.station.number);
        line.append(" at ");
        line.append(asked.hour);
        line.append(", ");
        Report report = asked.report;
        if (report == null) {
            line.append(asked.hour >= hour ? "to come" : "missed");
        } else {
            line.append(sortWord(report.sort));
            line.append(stateWord(report.state));
        }
        return line.toString();
    }

    // ---- what would be (nothing is changed).

    /** Answers the greatest sum of quality that any shift could have in an hour of the day. */
    public int best(int hour) throws IndexOutOfBoundsException {
        if (isOutside(hour, 0, HOURS_OF_DAY - 1)) {
            throw new IndexOutOfBoundsException("no such hour");
        }
        return matching.greatestSum(hour);
    }

    /** Answers the monitor or the station at a set of the shift with the greatest sum. */
    public int bestAt(int hour, int set, boolean isMonitor) throws IndexOutOfBoundsException {
        if (isOutside(hour, 0, HOURS_OF_DAY - 1) || isOutside(set, 0, SETS - 1)) {
            throw new IndexOutOfBoundsException("hour or set");
        }
        matching.choose(hour);
        return isMonitor ? matching.monitorAtSet(set) : matching.stationAtSet(set);
    }

    /** Answers the quality with which a talk to come would be heard. */
    public int wouldHear(int talk) throws IndexOutOfBoundsException, IllegalStateException {
        Talk asked = newsroom.talkAt(talk);
        if (asked == null) {
            throw new IndexOutOfBoundsException("no such talk");
        }
        if (asked.hour < hour) {
            throw new IllegalStateException("the talk is over");
        }
        int hourOfDay = asked.hour % HOURS_OF_DAY;
        return room.qualityAt(hourOfDay, room.setThatHears(asked.station, hourOfDay));
    }

    /** Answers how many reports would be sent, if the hour was over now without its talks. */
    public int wouldSend() {
        return newsroom.countToSend(hour);
    }

    /** Answers whether the shift, the reports, the readers and the wire agree. */
    public boolean isSound() {
        return room.isShiftSound() && newsroom.isStateSound();
    }

    /** Computes a checksum of all that can be asked. */
    public long digest() {
        long d = DIGEST_START;
        for (int what = 0; what < DESK_FACTS; what++) {
            d = mixed(d, deskFact(what));
        }
        d = withDial(d);
        d = withBestShift(d);
        d = withTalks(d);
        d = withReaders(d);
        for (int land = 0; land < LANDS; land++) {
            d = mixed(d, newsroom.goneFrom(land, day()));
            d = mixed(d, (long) (64.0 * newsroom.meanQuality(land)));
        }
        for (int topic = 0; topic < TOPICS; topic++) {
            d = mixed(d, newsroom.firstSentOn(topic));
        }
        d = mixed(d, matching.greatestSum(hourOfDay()));
        d = mixed(d, newsroom.countToSend(hour));
        return mixed(d, isSound() ? 1L : 0L);
    }

    private long withDial(long start) {
        long d = start;
        for (int i = 0; i < dial.stations.size(); i++) {
            for (int what = 0; what < STATION_FACTS; what++) {
                d = mixed(d, stationFact(dial.stations.get(i), what));
            }
        }
        for (int i = 0; i < room.monitors.size(); i++) {
            for (int what = 0; what < MONITOR_FACTS; what++) {
                d = mixed(d, monitorFact(room.monitors.get(i), what));
            }
        }
        return d;
    }

    private long withBestShift(long start) {
        long d = start;
        matching.choose(hourOfDay());
        for (int set = 0; set < SETS; set++) {
            d = mixed(d, matching.stationAtSet(set));
            d = mixed(d, matching.monitorAtSet(set));
        }
        return d;
    }

    private long withTalks(long start) {
        long d = start;
        for (int i = 0; i < newsroom.talks.size(); i++) {
            Talk talk = newsroom.talks.get(i);
            for (int what = 0; what < TALK_FACTS; what++) {
                d = mixed(d, talkFact(talk, what));
            }
            for (int what = 0; what < REPORT_FACTS; what++) {
                d = mixed(d, reportFact(talk, what));
            }
            for (int k = 0; k < newsroom.readers.size(); k++) {
                d = mixed(d, talk.reached(newsroom.readers.get(k)));
            }
        }
        return d;
    }

    private long withReaders(long start) {
        long d = start;
        for (int i = 0; i < newsroom.readers.size(); i++) {
            for (int what = 0; what < READER_FACTS; what++) {
                d = mixed(d, readerFact(newsroom.readers.get(i), what));
            }
        }
        return d;
    }

    private int day() {
        return hour / HOURS_OF_DAY;
    }

    private int hourOfDay() {
        return hour % HOURS_OF_DAY;
    }

    /** The order of the steps is the document's: what is heard goes by the weariness ahead of it. */
    private void endHour() {
        for (int i = 0; i < newsroom.talks.size(); i++) {
            Talk talk = newsroom.talks.get(i);
            int set = talk.hour == hour ? room.setThatHears(talk.station, hourOfDay()) : NONE;
            if (set != NONE) {
                int quality = room.qualityAt(hourOfDay(), set);
                newsroom.file(talk, new Report(talk, set, room.monitorIn(hourOfDay(), set), quality));
            }
        }
        room.tire(hourOfDay());
        newsroom.dropStale(hour);
        newsroom.runWire(hour);
        hour++;
        if (hourOfDay() == 0) {
            newsroom.wordsLeft = WIRE_WORDS;
        }
    }

    private int stationFact(Station station, int what) {
        switch (what) {
            case 0: return station.band;
            case 1: return station.power;
            case 2: return station.far;
            case 3: return station.land;
            case 4: return station.tongue;
            case 5: return station.isOnAir(hourOfDay()) ? 1 : 0;
            case 6: return dial.strengthOf(station, hourOfDay());
            case 7: return newsroom.countTalksOf(station);
            default: return newsroom.countReportsOf(station);
        }
    }

    private int monitorFact(Monitor monitor, int what) {
        switch (what) {
            case 5: return monitor.weary;
            case 6: return monitor.hoursSat;
            case 7: return newsroom.countReportsBy(monitor);
            case 8: return room.setOf(hourOfDay(), monitor.number);
            default: return monitor.skillFor(what);
        }
    }

    private int talkFact(Talk talk, int what) {
        switch (what) {
            case 0: return talk.station.number;
            case 1: return talk.hour;
            case 2: return talk.topic;
            case 3: return talk.words;
            case 4: return talk.weight;
            case 5: return talk.formulas;
            case 6: return talk.print;
            default: return talk.report != null ? 2 : talk.hour < hour ? 1 : 0;
        }
    }

    private int reportFact(Talk talk, int what) {
        Report report = talk.report;
        if (report == null) {
            return NO_REPORT;
        }
        switch (what) {
            case 0: return report.sort;
            case 1: return report.length;
            case 2: return report.caught;
            case 3: return report.heard;
            case 4: return report.guessed;
            case 5: return report.state;
            case 6: return report.sentHour;
            case 7: return report.set;
            case 8: return report.monitor;
            case 9: return report.quality;
            case 10: return talk.isInError() ? 1 : 0;
            default: return report.correction;
        }
    }

    private int readerFact(Reader reader, int what) {
        switch (what) {
            case 0: return reader.lands;
            case 1: return reader.topics;
            case 2: return newsroom.countReached(reader, 1);
            case 3: return newsroom.countReached(reader, 2);
            default: return newsroom.countMisled(reader);
        }
    }

    private int deskFact(int what) {
        switch (what) {
            case 0: return hour;
            case 1: return day();
            case 2: return hourOfDay();
            case 3: return dial.stations.size();
            case 4: return dial.jammers.size();
            case 5: return room.monitors.size();
            case 6: return newsroom.talks.size();
            case 7: return newsroom.countReports();
            case 8: return newsroom.countThatStand(WAITS);
            case 9: return newsroom.countThatStand(SENT);
            case 10: return newsroom.countThatStand(STALE);
            case 11: return newsroom.countThatStand(GIVEN);
            case 12: return newsroom.countThatStand(DROPPED);
            case 13: return newsroom.wordsLeft;
            case 14: return newsroom.corrections.size() - newsroom.correctionsSent;
            case 15: return newsroom.correctionsSent;
            case 16: return newsroom.readers.size();
            case 17: return newsroom.partnerLands;
            default: return refused;
        }
    }

    private static String sortWord(int sort) {
        switch (sort) {
            case SORT_FLASH: return "flash";
            case SORT_TEXT: return "text";
            case SORT_SUMMARY: return "summary";
            default: return "dropped";
        }
    }

    private static String stateWord(int state) {
        switch (state) {
            case SENT: return " sent";
            case STALE: return " stale";
            case GIVEN: return " given";
            default: return "";
        }
    }

    private static long mixed(long d, long value) {
        return d * 31L + value;
    }

    private static boolean isOutside(int value, int least, int most) {
        return value < least || value > most;
    }

    private static boolean isIn(int set, int number) {
        return (set >> number & 1) == 1;
    }

    private static int hold(int value, int least, int most) {
        return Math.max(least, Math.min(most, value));
    }

    /** A station as it was told; only its band changes. */
    private static final class Station {
        final int number;
        int band;
        final int power;
        final int far;
        final int land;
        final int tongue;
        final int hours;

        Station(int number, int band, int power, int far, int land, int tongue, int hours) {
            this.number = number;
            this.band = band;
            this.power = power;
            this.far = far;
            this.land = land;
            this.tongue = tongue;
            this.hours = hours;
        }

        boolean isOnAir(int hourOfDay) {
            return (hours >> hourOfDay & 1) == 1;
        }
    }

    /** A jammer; with a power of 0 it is off. */
    private static final class Jammer {
        final int band;
        int power;

        Jammer(int band, int power) {
            this.band = band;
            this.power = power;
        }
    }

    /** The stations and the jammers, and how strong each station comes. */
    private static final class Dial {
        final ArrayList<Station> stations = new ArrayList<Station>();
        final ArrayList<Jammer> jammers = new ArrayList<Jammer>();

        Station stationAt(int number) {
            return isOutside(number, 0, stations.size() - 1) ? null : stations.get(number);
        }

        Jammer jammerAt(int number) {
            return isOutside(number, 0, jammers.size() - 1) ? null : jammers.get(number);
        }

        int strengthOf(Station station, int hourOfDay) {
            if (!station.isOnAir(hourOfDay)) {
                return 0;
            }
            int strength = 10 * station.power - 6 * station.far;
            if (station.far >= 4 && isNight(hourOfDay) == (station.band < 50)) {
                strength += 25;
            }
            for (int i = 0; i < jammers.size(); i++) {
                Jammer jammer = jammers.get(i);
                if (isNear(jammer.band, station.band)) {
                    strength -= 8 * jammer.power;
                }
            }
            for (int i = 0; i < stations.size(); i++) {
                Station other = stations.get(i);
                if (other != station && other.isOnAir(hourOfDay) && isNear(other.band, station.band)) {
                    strength -= 10;
                }
            }
            return strength;
        }

        private static boolean isNear(int band, int other) {
            return Math.abs(band - other) <= 1;
        }

        private static boolean isNight(int hourOfDay) {
            return hourOfDay >= 18 || hourOfDay <= 5;
        }
    }

    /** A monitor with a skill for each tongue, as the digits of one number. */
    private static final class Monitor {
        final int number;
        final int skills;
        int weary;
        int hoursSat;

        Monitor(int number, int skills) {
            this.number = number;
            this.skills = skills;
        }

        int skillFor(int tongue) {
            int rest = skills;
            for (int i = 0; i < tongue; i++) {
                rest /= 10;
            }
            return rest % 10;
        }
    }

    /** The monitors, and the shift that tells who hears which station at which set. */
    private static final class Room {
        private final Dial dial;
        final ArrayList<Monitor> monitors = new ArrayList<Monitor>();
        private final int[] stationOfSlot = new int[SLOTS];
        private final int[] monitorOfSlot = new int[SLOTS];

        Room(Dial dial) {
            this.dial = dial;
            Arrays.fill(stationOfSlot, NONE);
            Arrays.fill(monitorOfSlot, NONE);
        }

        Monitor monitorAt(int number) {
            return isOutside(number, 0, monitors.size() - 1) ? null : monitors.get(number);
        }

        int stationIn(int hourOfDay, int set) {
            return isSlot(hourOfDay, set) ? stationOfSlot[hourOfDay * SETS + set] : NONE;
        }

        int monitorIn(int hourOfDay, int set) {
            return isSlot(hourOfDay, set) ? monitorOfSlot[hourOfDay * SETS + set] : NONE;
        }

        void write(int hourOfDay, int set, int station, int monitor) {
            if (isSlot(hourOfDay, set)) {
                stationOfSlot[hourOfDay * SETS + set] = station;
                monitorOfSlot[hourOfDay * SETS + set] = monitor;
            }
        }

        private static boolean isSlot(int hourOfDay, int set) {
            return !isOutside(hourOfDay, 0, HOURS_OF_DAY - 1) && !isOutside(set, 0, SETS - 1);
        }

        boolean sitsElsewhere(int hourOfDay, int set, int monitor) {
            for (int other = 0; other < SETS; other++) {
                if (other != set && monitorIn(hourOfDay, other) == monitor) {
                    return true;
                }
            }
            return false;
        }

        int setOf(int hourOfDay, int monitor) {
            for (int set = 0; set < SETS; set++) {
                if (monitorIn(hourOfDay, set) == monitor) {
                    return set;
                }
            }
            return NONE;
        }

        int qualityOf(Monitor monitor, Station station, int hourOfDay) {
            int clear = hold(dial.strengthOf(station, hourOfDay) / 10, 0, MOST_CLEAR);
            int skill = monitor.skillFor(station.tongue);
            if (clear == 0 || skill == 0) {
                return 0;
            }
            return hold(clear + skill - monitor.weary / 4, 0, MOST_QUALITY);
        }

        /** 0 for a set at which nobody sits. */
        int qualityAt(int hourOfDay, int set) {
            Monitor monitor = monitorAt(monitorIn(hourOfDay, set));
            Station station = dial.stationAt(stationIn(hourOfDay, set));
            return monitor == null || station == null ? 0 : qualityOf(monitor, station, hourOfDay);
        }

        /** The set whose record of the station would count; NONE, if none makes one. */
        int setThatHears(Station station, int hourOfDay) {
            int bestSet = NONE;
            int bestQuality = 0;
            for (int set = 0; set < SETS; set++) {
                int quality = stationIn(hourOfDay, set) == station.number ? qualityAt(hourOfDay, set) : 0;
                if (quality > bestQuality) {
                    bestSet = set;
                    bestQuality = quality;
                }
            }
            return bestSet;
        }

        void tire(int hourOfDay) {
            for (int i = 0; i < monitors.size(); i++) {
                Monitor monitor = monitors.get(i);
                boolean isSitting = setOf(hourOfDay, monitor.number) != NONE;
                monitor.weary = hold(monitor.weary + (isSitting ? 3 : -2), 0, MOST_WEARY);
                monitor.hoursSat += isSitting ? 1 : 0;
            }
        }

        boolean isShiftSound() {
            for (int hourOfDay = 0; hourOfDay < HOURS_OF_DAY; hourOfDay++) {
                for (int set = 0; set < SETS; set++) {
                    int monitor = monitorIn(hourOfDay, set);
                    if (monitor != NONE && sitsElsewhere(hourOfDay, set, monitor)) {
                        return false;
                    }
                }
            }
            return true;
        }
    }

    /** A talk as it was told, with its print and its report as they come. */
    private static final class Talk {
        final int number;
        final Station station;
        final int hour;
        final int topic;
        final int words;
        final int weight;
        final int formulas;
        int print = NONE;
        Report report;

        Talk(int number, Station station, int hour, int topic, int words, int weight, int formulas) {
            this.number = number;
            this.station = station;
            this.hour = hour;
            this.topic = topic;
            this.words = words;
            this.weight = weight;
            this.formulas = formulas;
        }

        boolean isOnDays(int from, int to) {
            return !isOutside(hour / HOURS_OF_DAY, from, to);
        }

        boolean hasReportThatStands(int state) {
            return report != null && report.state == state;
        }

        boolean isInError() {
            if (report == null || report.state != SENT || print == NONE) {
                return false;
            }
            boolean isMisheard = report.guessed != NONE && !isIn(print, report.guessed);
            return isMisheard || (print & ~report.formulas()) != 0;
        }

        boolean isFor(Reader reader) {
            return isIn(reader.lands, station.land) && isIn(reader.topics, topic);
        }

        /** 0: nothing, 1: the report, 2: the correction, too. */
        int reached(Reader reader) {
            if (report == null || !isIn(report.readers, reader.number)) {
                return 0;
            }
            return report.correction == CORRECTION_SENT ? 2 : 1;
        }
    }

    /** What one set made of a talk. */
    private static final class Report {
        final int sort;
        final int length;
        final int caught;
        final int heard;
        final int guessed;
        final int set;
        final int monitor;
        final int quality;
        int state;
        int sentHour = NONE;
        int sentTurn = NONE;
        int correction = CORRECTION_NONE;
        // A correction goes to just those who have the report, and they are known as it is sent.
        int readers;

        Report(Talk talk, int set, int monitor, int quality) {
            this.set = set;
            this.monitor = monitor;
            this.quality = quality;
            sort = sortOf(talk.weight);
            caught = talk.words * quality / MOST_QUALITY;
            length = lengthOf(sort, caught);
            heard = talk.formulas & ((1 << quality) - 1);
            guessed = quality <= FORMULAS - 2 && isIn(talk.formulas, quality) ? quality + 1 : NONE;
        }

        int formulas() {
            return guessed == NONE ? heard : heard | 1 << guessed;
        }

        private static int sortOf(int weight) {
            if (weight >= FLASH_WEIGHT) {
                return SORT_FLASH;
            }
            if (weight >= TEXT_WEIGHT) {
                return SORT_TEXT;
            }
            return weight >= SUMMARY_WEIGHT ? SORT_SUMMARY : SORT_DROPPED;
        }

        private static int lengthOf(int sort, int caught) {
            switch (sort) {
                case SORT_FLASH: return Math.min(FLASH_LENGTH, caught);
                case SORT_TEXT: return caught;
                case SORT_SUMMARY: return caught / 4;
                default: return 0;
            }
        }
    }

    /** A reader with what it asked for. */
    private static final class Reader {
        final int number;
        int lands;
        int topics;

        Reader(int number, int lands, int topics) {
            this.number = number;
            this.lands = lands;
            this.topics = topics;
        }
    }

    /** The talks, what is made of them, and the wire that sends it to the readers. */
    private static final class Newsroom {
        final ArrayList<Talk> talks = new ArrayList<Talk>();
        final ArrayList<Reader> readers = new ArrayList<Reader>();
        // In the order in which they began to wait; the first correctionsSent of them are sent.
        final ArrayList<Talk> corrections = new ArrayList<Talk>();
        int correctionsSent;
        int reportsSent;
        int wordsLeft = WIRE_WORDS;
        int partnerLands;

        Talk talkAt(int number) {
            return isOutside(number, 0, talks.size() - 1) ? null : talks.get(number);
        }

        Reader readerAt(int number) {
            return isOutside(number, 0, readers.size() - 1) ? null : readers.get(number);
        }

        boolean hasTalk(Station station, int hour) {
            for (int i = 0; i < talks.size(); i++) {
                Talk talk = talks.get(i);
                if (talk.station == station && talk.hour == hour) {
                    return true;
                }
            }
            return false;
        }

        void file(Talk talk, Report report) {
            boolean isForPartner = report.sort == SORT_TEXT || report.sort == SORT_SUMMARY;
            if (report.sort == SORT_DROPPED) {
                report.state = DROPPED;
            } else if (isForPartner && isIn(partnerLands, talk.station.land)) {
                report.state = GIVEN;
            } else {
                report.state = WAITS;
            }
            talk.report = report;
        }

        void dropStale(int hour) {
            for (int i = 0; i < talks.size(); i++) {
                Talk talk = talks.get(i);
                Report report = talk.report;
                if (report != null && report.state == WAITS && isTooOld(talk, hour)) {
                    report.state = STALE;
                }
            }
        }

        private static boolean isTooOld(Talk talk, int hour) {
            return talk.hour + HOURS_OF_DAY <= hour;
        }

        void runWire(int hour) {
            sendCorrections();
            sendReports(hour, wordsLeft, true);
        }

        int countToSend(int hour) {
            return sendReports(hour, wordsLeft - CORRECTION_WORDS * correctionsThatFit(), false);
        }

        /**
         * Sends as far as the words go, or only counts what would be sent. The greatest weight first
         * is the greatest sort first, too, as the sort goes by the weight.
         */
        private int sendReports(int hour, int words, boolean isForReal) {
            int wordsThen = words;
            int count = 0;
            for (int weight = MOST_WEIGHT; weight >= SUMMARY_WEIGHT; weight--) {
                for (int i = 0; i < talks.size(); i++) {
                    Talk talk = talks.get(i);
                    boolean isNext = talk.weight == weight && talk.hasReportThatStands(WAITS);
                    Report report = isNext && !isTooOld(talk, hour) ? talk.report : null;
                    if (report != null && report.length <= wordsThen) {
                        wordsThen -= report.length;
                        count++;
                        if (isForReal) {
                            markSent(talk, report, hour);
                        }
                    }
                }
            }
            return count;
        }

        private void markSent(Talk talk, Report report, int hour) {
            wordsLeft -= report.length;
            report.state = SENT;
            report.sentHour = hour;
            report.sentTurn = reportsSent;
            reportsSent++;
            for (int i = 0; i < readers.size(); i++) {
                if (talk.isFor(readers.get(i))) {
                    report.readers |= 1 << i;
                }
            }
            awaitCorrection(talk);
        }

        private int correctionsThatFit() {
            return Math.min(wordsLeft / CORRECTION_WORDS, corrections.size() - correctionsSent);
        }

        private void sendCorrections() {
            int last = correctionsSent + correctionsThatFit();
            for (int i = correctionsSent; i < last && i < corrections.size(); i++) {
                Report report = corrections.get(i).report;
                if (report != null) {
                    report.correction = CORRECTION_SENT;
                    wordsLeft -= CORRECTION_WORDS;
                }
            }
            correctionsSent = last;
        }

        /** Does nothing, if the report is not sent or not in error. */
        void awaitCorrection(Talk talk) {
            Report report = talk.report;
            if (report != null && talk.isInError()) {
                report.correction = CORRECTION_WAITS;
                corrections.add(talk);
            }
        }

        int countWaitingFor(Reader reader) {
            int count = 0;
            for (int i = 0; i < talks.size(); i++) {
                Talk talk = talks.get(i);
                count += talk.hasReportThatStands(WAITS) && talk.isFor(reader) ? 1 : 0;
            }
            return count;
        }

        int countTalksOf(Station station) {
            int count = 0;
            for (int i = 0; i < talks.size(); i++) {
                count += talks.get(i).station == station ? 1 : 0;
            }
            return count;
        }

        int countReportsOf(Station station) {
            int count = 0;
            for (int i = 0; i < talks.size(); i++) {
                Talk talk = talks.get(i);
                count += talk.report != null && talk.station == station ? 1 : 0;
            }
            return count;
        }

        int countReportsBy(Monitor monitor) {
            int count = 0;
            for (int i = 0; i < talks.size(); i++) {
                Report report = talks.get(i).report;
                count += report != null && report.monitor == monitor.number ? 1 : 0;
            }
            return count;
        }

        int countReports() {
            int count = 0;
            for (int i = 0; i < talks.size(); i++) {
                count += talks.get(i).report != null ? 1 : 0;
            }
            return count;
        }

        int countThatStand(int state) {
            int count = 0;
            for (int i = 0; i < talks.size(); i++) {
                count += talks.get(i).hasReportThatStands(state) ? 1 : 0;
            }
            return count;
        }

        int countReached(Reader reader, int least) {
            int count = 0;
            for (int i = 0; i < talks.size(); i++) {
                count += talks.get(i).reached(reader) >= least ? 1 : 0;
            }
            return count;
        }

        /** Reports in error that the reader has without the correction. */
        int countMisled(Reader reader) {
            int count = 0;
            for (int i = 0; i < talks.size(); i++) {
                Talk talk = talks.get(i);
                count += talk.isInError() && talk.reached(reader) == 1 ? 1 : 0;
            }
            return count;
        }

        int countUsed(int land, int formula, int from, int to) {
            int count = 0;
            for (int i = 0; i < talks.size(); i++) {
                Talk talk = talks.get(i);
                Report report = talk.report;
                if (report != null && talk.station.land == land && talk.isOnDays(from, to)) {
                    count += isIn(report.heard, formula) ? 1 : 0;
                }
            }
            return count;
        }

        private int countReportsOn(int land, int from, int to) {
            int count = 0;
            for (int i = 0; i < talks.size(); i++) {
                Talk talk = talks.get(i);
                if (talk.report != null && talk.station.land == land && talk.isOnDays(from, to)) {
                    count++;
                }
            }
            return count;
        }

        int goneFrom(int land, int day) {
            if (countReportsOn(land, day - 2, day) < 2) {
                return 0;
            }
            int set = 0;
            for (int formula = 0; formula < FORMULAS; formula++) {
                boolean wasUsual = countUsed(land, formula, day - 9, day - 3) >= 3;
                if (wasUsual && countUsed(land, formula, day - 2, day) == 0) {
                    set |= 1 << formula;
                }
            }
            return set;
        }

        int firstSentOn(int topic) {
            int number = NONE;
            int firstTurn = reportsSent;
            for (int i = 0; i < talks.size(); i++) {
                Talk talk = talks.get(i);
                Report report = talk.report;
                if (report != null && talk.topic == topic && report.state == SENT && report.sentTurn < firstTurn) {
                    number = talk.number;
                    firstTurn = report.sentTurn;
                }
            }
            return number;
        }

        double meanQuality(int land) {
            int sum = 0;
            int count = 0;
            for (int i = 0; i < talks.size(); i++) {
                Talk talk = talks.get(i);
                Report report = talk.report;
                if (report != null && talk.station.land == land) {
                    sum += report.quality;
                    count++;
                }
            }
            return count == 0 ? 0.0 : (double) sum / (double) count;
        }

        boolean isStateSound() {
            int known = 0;
            for (int state = WAITS; state <= DROPPED; state++) {
                known += countThatStand(state);
            }
            return known == countReports() && areReportsSound() && !isOutside(wordsLeft, 0, WIRE_WORDS);
        }

        private boolean areReportsSound() {
            for (int i = 0; i < talks.size(); i++) {
                Talk talk = talks.get(i);
                Report report = talk.report;
                if (report != null) {
                    boolean isReadUnsent = report.readers != 0 && report.state != SENT;
                    boolean isRightCorrected = report.correction != CORRECTION_NONE && !talk.isInError();
                    if (isReadUnsent || isRightCorrected) {
                        return false;
                    }
                }
            }
            return true;
        }
    }

    /** Finds the shift of one hour of the day with the greatest sum of quality. */
    private static final class Matching {
        private static final int PAIRS = MOST_STATIONS * MOST_MONITORS;
        private static final int MONITOR_SETS = 1 << MOST_MONITORS;

        private final Dial dial;
        private final Room room;
        // By pairs: a station's number times MOST_MONITORS, and the monitor's number.
        private final int[] qualities = new int[PAIRS];
        // By the set of monitors that are taken: the greatest sum that they reach, or NONE.
        private final int[] sums = new int[MONITOR_SETS];
        private final int[] pairs = new int[SETS];

        Matching(Dial dial, Room room) {
            this.dial = dial;
            this.room = room;
        }

        int greatestSum(int hourOfDay) {
            readQualities(hourOfDay);
            return greatestOf(SETS, 0, 0);
        }

        /** Takes set by set the smallest pair with which the greatest sum can still come about. */
        void choose(int hourOfDay) {
            readQualities(hourOfDay);
            int rest = greatestOf(SETS, 0, 0);
            int stationsTaken = 0;
            int monitorsTaken = 0;
            for (int set = 0; set < SETS; set++) {
                int pair = smallestPair(SETS - 1 - set, rest, stationsTaken, monitorsTaken);
                pairs[set] = pair;
                if (!isOutside(pair, 0, PAIRS - 1)) {
                    rest -= qualities[pair];
                    stationsTaken |= 1 << pair / MOST_MONITORS;
                    monitorsTaken |= 1 << pair % MOST_MONITORS;
                }
            }
        }

        int stationAtSet(int set) {
            int pair = pairAtSet(set);
            return pair == NONE ? NONE : pair / MOST_MONITORS;
        }

        int monitorAtSet(int set) {
            int pair = pairAtSet(set);
            return pair == NONE ? NONE : pair % MOST_MONITORS;
        }

        private int pairAtSet(int set) {
            return isOutside(set, 0, SETS - 1) ? NONE : pairs[set];
        }

        private void readQualities(int hourOfDay) {
            for (int pair = 0; pair < PAIRS; pair++) {
                Station station = dial.stationAt(pair / MOST_MONITORS);
                Monitor monitor = room.monitorAt(pair % MOST_MONITORS);
                qualities[pair] = station == null || monitor == null ? 0 : room.qualityOf(monitor, station, hourOfDay);
            }
        }

        private int smallestPair(int setsBehind, int sum, int stationsTaken, int monitorsTaken) {
            for (int pair = 0; pair < PAIRS; pair++) {
                int station = pair / MOST_MONITORS;
                int monitor = pair % MOST_MONITORS;
                boolean isFree = !isIn(stationsTaken, station) && !isIn(monitorsTaken, monitor);
                if (isFree && qualities[pair] > 0) {
                    int behind = greatestOf(setsBehind, stationsTaken | 1 << station, monitorsTaken | 1 << monitor);
                    if (qualities[pair] + behind == sum) {
                        return pair;
                    }
                }
            }
            return NONE;
        }

        /** The greatest sum at so many sets, without the stations and monitors that are taken. */
        private int greatestOf(int sets, int stationsTaken, int monitorsTaken) {
            Arrays.fill(sums, NONE);
            sums[0] = 0;
            for (int station = 0; station < dial.stations.size(); station++) {
                if (!isIn(stationsTaken, station)) {
                    addStation(station, sets, monitorsTaken);
                }
            }
            int greatest = 0;
            for (int monitors = 0; monitors < MONITOR_SETS; monitors++) {
                greatest = Math.max(greatest, sums[monitors]);
            }
            return greatest;
        }

        /** From the greatest set of monitors down: so the station is never added to its own sums. */
        private void addStation(int station, int sets, int monitorsTaken) {
            for (int monitors = MONITOR_SETS - 1; monitors >= 0; monitors--) {
                boolean isReached = sums[monitors] != NONE && Integer.bitCount(monitors) < sets;
                for (int monitor = 0; isReached && monitor < MOST_MONITORS; monitor++) {
                    int with = monitors | 1 << monitor;
                    int quality = qualityOfPair(station * MOST_MONITORS + monitor);
                    boolean isFree = !isIn(monitors | monitorsTaken, monitor);
                    if (isFree && quality > 0 && with < MONITOR_SETS) {
                        sums[with] = Math.max(sums[with], sums[monitors] + quality);
                    }
                }
            }
        }

        private int qualityOfPair(int pair) {
            return isOutside(pair, 0, PAIRS - 1) ? 0 : qualities[pair];
        }
    }
}
