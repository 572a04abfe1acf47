import java.util.ArrayList;
import java.util.Arrays;
import java.util.Comparator;
import java.util.HashMap;
import java.util.HashSet;
import java.util.List;
import java.util.Map;
import java.util.Set;

/**
 * A second program of the same document, as plain and as slow as its words: the best shift by
 * trying all, the wire by sorting, the sets as sets. It is here only to be compared with.
 */
final class Model {
    static final class St { int band, power, far, land, tongue; Set<Integer> hours; }
    static final class Jam { int band, power; }
    static final class Mon { int[] skill = new int[5]; int weary, sat; }
    static final class Read { Set<Integer> lands, topics; Set<Integer> has = new HashSet<>(), corrected = new HashSet<>(); }
    static final class Rep { int sort, length, caught, guessed = -1, state, sentHour = -1, set, monitor, quality, correction; Set<Integer> heard = new HashSet<>(); }
    static final class Tk { int station, hour, topic, words, weight; Set<Integer> formulas, print; Rep report; }

    final List<St> stations = new ArrayList<>();
    final List<Jam> jammers = new ArrayList<>();
    final List<Mon> monitors = new ArrayList<>();
    final List<Read> readers = new ArrayList<>();
    final List<Tk> talks = new ArrayList<>();
    final Map<List<Integer>, int[]> shift = new HashMap<>();
    final List<Integer> sentOrder = new ArrayList<>();
    List<Integer> waitingCorrections = new ArrayList<>();
    int correctionsSent, hour, wire = 600, refused;
    Set<Integer> partner = new HashSet<>();
    final Map<String, Integer> seen;

    Model(Map<String, Integer> seen) {
        this.seen = seen;
    }

    private void see(String what) {
        seen.merge(what, 1, Integer::sum);
    }

    static Set<Integer> setOf(int sum) {
        Set<Integer> set = new HashSet<>();
        for (int k = 0; k < 31; k++) {
            if ((sum / (1 << k)) % 2 == 1) {
                set.add(k);
            }
        }
        return set;
    }

    static int sumOf(Set<Integer> set) {
        int sum = 0;
        for (int k : set) {
            sum += 1 << k;
        }
        return sum;
    }

    private static void bounds(boolean isRight) {
        if (!isRight) {
            throw new IndexOutOfBoundsException();
        }
    }

    private static void argument(boolean isRight) {
        if (!isRight) {
            throw new IllegalArgumentException();
        }
    }

    private static void state(boolean isRight) {
        if (!isRight) {
            throw new IllegalStateException();
        }
    }

    private static boolean in(int v, int a, int b) {
        return a <= v && v <= b;
    }

    private static int held(int v, int a, int b) {
        if (v < a) {
            return a;
        }
        if (v > b) {
            return b;
        }
        return v;
    }

    int station(int band, int power, int far, int land, int tongue, int hours) {
        argument(in(band, 0, 99));
        argument(in(power, 1, 9));
        argument(in(far, 0, 9));
        argument(in(land, 0, 5));
        argument(in(tongue, 0, 4));
        argument(in(hours, 0, 16777215));
        state(stations.size() < 8);
        St s = new St();
        s.band = band;
        s.power = power;
        s.far = far;
        s.land = land;
        s.tongue = tongue;
        s.hours = setOf(hours);
        stations.add(s);
        return stations.size() - 1;
    }

    int drift(int station, int band) {
        bounds(in(station, 0, stations.size() - 1));
        argument(in(band, 0, 99));
        int old = stations.get(station).band;
        stations.get(station).band = band;
        return old;
    }

    int jammer(int band, int power) {
        argument(in(band, 0, 99) && in(power, 0, 9));
        state(jammers.size() < 6);
        Jam j = new Jam();
        j.band = band;
        j.power = power;
        jammers.add(j);
        return jammers.size() - 1;
    }

    int jam(int jammer, int power) {
        bounds(in(jammer, 0, jammers.size() - 1));
        argument(in(power, 0, 9));
        int old = jammers.get(jammer).power;
        jammers.get(jammer).power = power;
        return old;
    }

    int monitor(int skills) {
        argument(in(skills, 0, 99999));
        state(monitors.size() < 5);
        Mon m = new Mon();
        String digits = String.format("%05d", skills);
        for (int i = 0; i < 5; i++) {
            m.skill[i] = digits.charAt(4 - i) - '0';
        }
        monitors.add(m);
        return monitors.size() - 1;
    }

    private int[] slot(int h, int set) {
        return shift.getOrDefault(List.of(h, set), new int[] {-1, -1});
    }

    int shift(int h, int set, int station, int monitor) {
        bounds(in(h, 0, 23) && in(set, 0, 2));
        bounds(in(station, -1, stations.size() - 1) && in(monitor, -1, monitors.size() - 1));
        argument(station == -1 && monitor == -1 || station != -1 && monitor != -1);
        for (int other = 0; other < 3; other++) {
            state(other == set || monitor == -1 || slot(h, other)[1] != monitor);
        }
        int old = slot(h, set)[0];
        shift.put(List.of(h, set), new int[] {station, monitor});
        return old;
    }

    int talk(int station, int h, int topic, int words, int weight, int formulas) {
        bounds(in(station, 0, stations.size() - 1));
        argument(in(h, hour, 719) && in(topic, 0, 15) && in(words, 1, 300) && in(weight, 0, 9) && in(formulas, 0, 65535));
        state(talks.size() < 40);
        state(stations.get(station).hours.contains(h % 24));
        for (Tk t : talks) {
            state(t.station != station || t.hour != h);
        }
        Tk t = new Tk();
        t.station = station;
        t.hour = h;
        t.topic = topic;
        t.words = words;
        t.weight = weight;
        t.formulas = setOf(formulas);
        talks.add(t);
        return talks.size() - 1;
    }

    private Set<Integer> missing(Tk t) {
        Set<Integer> rest = new HashSet<>(t.print);
        rest.removeAll(t.report.heard);
        rest.remove(t.report.guessed);
        return rest;
    }

    private boolean error(Tk t) {
        if (t.report == null || t.report.state != 1 || t.print == null) {
            return false;
        }
        boolean guessedWrong = t.report.guessed >= 0 && !t.print.contains(t.report.guessed);
        if (guessedWrong) {
            see("guess in error");
        }
        return guessedWrong || !missing(t).isEmpty();
    }

    int print(int talk, int formulas) {
        bounds(in(talk, 0, talks.size() - 1));
        argument(in(formulas, 0, 65535));
        Tk t = talks.get(talk);
        state(t.print == null);
        t.print = setOf(formulas);
        if (error(t)) {
            t.report.correction = 1;
            waitingCorrections.add(talk);
            see("correction by a print");
        }
        return t.report == null ? -1 : sumOf(missing(t));
    }

    int reader(int lands, int topics) {
        argument(in(lands, 0, 63) && in(topics, 0, 65535));
        state(readers.size() < 4);
        Read r = new Read();
        r.lands = setOf(lands);
        r.topics = setOf(topics);
        readers.add(r);
        return readers.size() - 1;
    }

    private boolean wants(Read r, Tk t) {
        return r.lands.contains(stations.get(t.station).land) && r.topics.contains(t.topic);
    }

    int ask(int reader, int lands, int topics) {
        bounds(in(reader, 0, readers.size() - 1));
        argument(in(lands, 0, 63) && in(topics, 0, 65535));
        Read r = readers.get(reader);
        r.lands = setOf(lands);
        r.topics = setOf(topics);
        int n = 0;
        for (Tk t : talks) {
            if (t.report != null && t.report.state == 0 && wants(r, t)) {
                n++;
                see("ask for a waiting report");
            }
        }
        return n;
    }

    int partner(int lands) {
        argument(in(lands, 0, 63));
        int old = sumOf(partner);
        partner = setOf(lands);
        return old;
    }

    int pass(int hours) {
        argument(in(hours, 1, 48));
        state(hour + hours <= 720);
        for (int i = 0; i < hours; i++) {
            over();
        }
        return hour;
    }

    private void over() {
        int h = hour % 24;
        for (int n = 0; n < talks.size(); n++) {
            Tk t = talks.get(n);
            if (t.hour == hour) {
                record(t, h);
            }
        }
        for (int m = 0; m < monitors.size(); m++) {
            boolean sits = setAt(m, h) != -1;
            monitors.get(m).sat += sits ? 1 : 0;
            monitors.get(m).weary = held(monitors.get(m).weary + (sits ? 3 : -2), 0, 40);
            if (monitors.get(m).weary == 40) {
                see("weary 40");
            }
        }
        for (Tk t : talks) {
            if (t.report != null && t.report.state == 0 && hour == t.hour + 24) {
                t.report.state = 2;
                see("stale");
            }
        }
        while (!waitingCorrections.isEmpty() && wire >= 10) {
            int n = waitingCorrections.remove(0);
            wire -= 10;
            correctionsSent++;
            talks.get(n).report.correction = 2;
            for (Read r : readers) {
                if (r.has.contains(n)) {
                    r.corrected.add(n);
                    see("corrected");
                }
            }
        }
        if (!waitingCorrections.isEmpty()) {
            see("no words for a correction");
        }
        for (int n : inOrder()) {
            Tk t = talks.get(n);
            if (t.report.length > wire) {
                see("passed over");
                continue;
            }
            wire -= t.report.length;
            t.report.state = 1;
            t.report.sentHour = hour;
            sentOrder.add(n);
            for (Read r : readers) {
                if (wants(r, t)) {
                    r.has.add(n);
                }
            }
            if (error(t)) {
                t.report.correction = 1;
                waitingCorrections.add(n);
                see("sent in error");
            }
        }
        hour++;
        if (hour % 24 == 0) {
            wire = 600;
        }
    }

    private List<Integer> inOrder() {
        List<Integer> list = new ArrayList<>();
        for (int n = 0; n < talks.size(); n++) {
            if (talks.get(n).report != null && talks.get(n).report.state == 0) {
                list.add(n);
            }
        }
        list.sort(Comparator.<Integer>comparingInt(n -> -talks.get(n).report.sort)
                .thenComparingInt(n -> -talks.get(n).weight).thenComparingInt(n -> n));
        return list;
    }

    private void record(Tk t, int h) {
        int best = 0;
        int bestSet = -1;
        for (int set = 2; set >= 0; set--) {
            int[] s = slot(h, set);
            if (s[0] == t.station) {
                int q = quality(s[1], s[0], h);
                if (q > 0 && q >= best) {
                    best = q;
                    bestSet = set;
                }
            }
        }
        if (bestSet == -1) {
            see("missed");
            return;
        }
        Rep r = new Rep();
        r.quality = best;
        r.set = bestSet;
        r.monitor = slot(h, bestSet)[1];
        r.caught = t.words * best / 18;
        for (int f : t.formulas) {
            if (f < best) {
                r.heard.add(f);
            }
            if (f == best && best <= 14) {
                r.guessed = best + 1;
                see("guessed");
            }
        }
        r.sort = t.weight >= 8 ? 3 : t.weight >= 5 ? 2 : t.weight >= 3 ? 1 : 0;
        r.length = r.sort == 3 ? Math.min(20, r.caught) : r.sort == 2 ? r.caught : r.sort == 1 ? r.caught / 4 : 0;
        boolean given = partner.contains(stations.get(t.station).land) && (r.sort == 1 || r.sort == 2);
        r.state = r.sort == 0 ? 4 : given ? 3 : 0;
        see("state " + r.state + " of sort " + r.sort);
        t.report = r;
    }

    int call() {
        return ++refused;
    }

    private int setAt(int monitor, int h) {
        for (int set = 0; set < 3; set++) {
            if (slot(h, set)[1] == monitor) {
                return set;
            }
        }
        return -1;
    }

    private int reports(java.util.function.Predicate<Tk> which) {
        return (int) talks.stream().filter(t -> t.report != null).filter(which).count();
    }

    int ofStation(int station, int what) {
        bounds(in(station, 0, stations.size() - 1));
        argument(in(what, 0, 8));
        St s = stations.get(station);
        int[] facts = {s.band, s.power, s.far, s.land, s.tongue, s.hours.contains(hour % 24) ? 1 : 0,
            comes(station, hour % 24), (int) talks.stream().filter(t -> t.station == station).count(),
            reports(t -> t.station == station)};
        return facts[what];
    }

    int comes(int station, int h) {
        bounds(in(station, 0, stations.size() - 1) && in(h, 0, 23));
        St s = stations.get(station);
        if (!s.hours.contains(h)) {
            return 0;
        }
        boolean night = h == 18 || h == 19 || h == 20 || h == 21 || h == 22 || h == 23 || h < 6;
        int c = 10 * s.power - 6 * s.far;
        if (night && s.far >= 4 && s.band < 50) {
            c += 25;
        }
        if (!night && s.far >= 4 && s.band >= 50) {
            c += 25;
        }
        for (Jam j : jammers) {
            c -= j.band == s.band || j.band == s.band - 1 || j.band == s.band + 1 ? 8 * j.power : 0;
        }
        for (int o = 0; o < stations.size(); o++) {
            St other = stations.get(o);
            boolean near = other.band == s.band || other.band == s.band - 1 || other.band == s.band + 1;
            c -= o != station && near && other.hours.contains(h) ? 10 : 0;
        }
        return c;
    }

    int ofMonitor(int monitor, int what) {
        bounds(in(monitor, 0, monitors.size() - 1));
        argument(in(what, 0, 8));
        Mon m = monitors.get(monitor);
        int[] facts = {m.skill[0], m.skill[1], m.skill[2], m.skill[3], m.skill[4], m.weary, m.sat,
            reports(t -> t.report.monitor == monitor), setAt(monitor, hour % 24)};
        return facts[what];
    }

    int sits(int h, int set, boolean isMonitor) {
        bounds(in(h, 0, 23) && in(set, 0, 2));
        return slot(h, set)[isMonitor ? 1 : 0];
    }

    int quality(int monitor, int station, int h) {
        bounds(in(monitor, 0, monitors.size() - 1) && in(station, 0, stations.size() - 1) && in(h, 0, 23));
        int clear = held(comes(station, h) / 10, 0, 9);
        int skill = monitors.get(monitor).skill[stations.get(station).tongue];
        return clear == 0 || skill == 0 ? 0 : held(clear + skill - monitors.get(monitor).weary / 4, 0, 18);
    }

    int ofTalk(int talk, int what) {
        bounds(in(talk, 0, talks.size() - 1));
        argument(in(what, 0, 7));
        Tk t = talks.get(talk);
        int[] facts = {t.station, t.hour, t.topic, t.words, t.weight, sumOf(t.formulas),
            t.print == null ? -1 : sumOf(t.print), t.hour >= hour ? 0 : t.report == null ? 1 : 2};
        return facts[what];
    }

    int ofReport(int talk, int what) {
        bounds(in(talk, 0, talks.size() - 1));
        argument(in(what, 0, 11));
        Tk t = talks.get(talk);
        Rep r = t.report;
        if (r == null) {
            return -2;
        }
        int[] facts = {r.sort, r.length, r.caught, sumOf(r.heard), r.guessed, r.state, r.sentHour, r.set,
            r.monitor, r.quality, error(t) ? 1 : 0, r.correction};
        return facts[what];
    }

    int got(int reader, int talk) {
        bounds(in(reader, 0, readers.size() - 1) && in(talk, 0, talks.size() - 1));
        Read r = readers.get(reader);
        return r.corrected.contains(talk) ? 2 : r.has.contains(talk) ? 1 : 0;
    }

    int ofReader(int reader, int what) {
        bounds(in(reader, 0, readers.size() - 1));
        argument(in(what, 0, 4));
        Read r = readers.get(reader);
        int misled = 0;
        for (int n : r.has) {
            misled += error(talks.get(n)) && !r.corrected.contains(n) ? 1 : 0;
        }
        int[] facts = {sumOf(r.lands), sumOf(r.topics), r.has.size(), r.corrected.size(), misled};
        return facts[what];
    }

    int used(int land, int formula, int from, int to) {
        bounds(in(land, 0, 5) && in(formula, 0, 15));
        return reports(t -> stations.get(t.station).land == land && in(t.hour / 24, from, to)
                && t.report.heard.contains(formula));
    }

    int gone(int land) {
        bounds(in(land, 0, 5));
        int day = hour / 24;
        int sum = 0;
        for (int f = 0; f < 16; f++) {
            boolean two = reports(t -> stations.get(t.station).land == land && in(t.hour / 24, day - 2, day)) >= 2;
            if (used(land, f, day - 9, day - 3) >= 3 && used(land, f, day - 2, day) == 0 && two) {
                sum += 1 << f;
                see("gone");
            }
        }
        return sum;
    }

    int first(int topic) {
        bounds(in(topic, 0, 15));
        for (int n : sentOrder) {
            if (talks.get(n).topic == topic) {
                return n;
            }
        }
        return -1;
    }

    double clarity(int land) {
        bounds(in(land, 0, 5));
        int n = reports(t -> stations.get(t.station).land == land);
        double sum = 0;
        for (Tk t : talks) {
            sum += t.report != null && stations.get(t.station).land == land ? t.report.quality : 0;
        }
        return n == 0 ? 0.0 : sum / n;
    }

    int desk(int what) {
        argument(in(what, 0, 18));
        int[] facts = {hour, hour / 24, hour % 24, stations.size(), jammers.size(), monitors.size(), talks.size(),
            reports(t -> true), reports(t -> t.report.state == 0), reports(t -> t.report.state == 1),
            reports(t -> t.report.state == 2), reports(t -> t.report.state == 3), reports(t -> t.report.state == 4),
            wire, waitingCorrections.size(), correctionsSent, readers.size(), sumOf(partner), refused};
        return facts[what];
    }

    String tell(int talk) {
        bounds(in(talk, 0, talks.size() - 1));
        Tk t = talks.get(talk);
        String head = talk + ": " + t.station + " at " + t.hour + ", ";
        if (t.report == null) {
            return head + (t.hour >= hour ? "to come" : "missed");
        }
        String[] sorts = {"dropped", "summary", "text", "flash"};
        String[] states = {"", " sent", " stale", " given", ""};
        return head + sorts[t.report.sort] + states[t.report.state];
    }

    /** All shifts of one hour in the document's order; the first with the greatest sum stays. */
    private int[] bestShift(int h) {
        int s = stations.size();
        int m = monitors.size();
        int[][] q = new int[s * m + 1][];
        int pairs = 0;
        for (int i = 0; i < s; i++) {
            for (int k = 0; k < m; k++) {
                int quality = quality(k, i, h);
                if (quality > 0) {
                    q[pairs++] = new int[] {i, k, quality};
                }
            }
        }
        q[pairs++] = new int[] {-1, -1, 0};
        int[] best = {-1, -1, -1, -1, -1, -1, -1};
        for (int a = 0; a < pairs; a++) {
            for (int b = 0; b < pairs; b++) {
                if (clash(q[a], q[b])) {
                    continue;
                }
                for (int c = 0; c < pairs; c++) {
                    int sum = q[a][2] + q[b][2] + q[c][2];
                    if (sum > best[6] && !clash(q[a], q[c]) && !clash(q[b], q[c])) {
                        best = new int[] {q[a][0], q[a][1], q[b][0], q[b][1], q[c][0], q[c][1], sum};
                    }
                }
            }
        }
        return best;
    }

    private static boolean clash(int[] p, int[] q) {
        return p[0] != -1 && q[0] != -1 && (p[0] == q[0] || p[1] == q[1]);
    }

    int best(int h) {
        bounds(in(h, 0, 23));
        return bestShift(h)[6];
    }

    int bestAt(int h, int set, boolean isMonitor) {
        bounds(in(h, 0, 23) && in(set, 0, 2));
        return bestShift(h)[2 * set + (isMonitor ? 1 : 0)];
    }

    int wouldHear(int talk) {
        bounds(in(talk, 0, talks.size() - 1));
        Tk t = talks.get(talk);
        state(t.hour >= hour);
        int best = 0;
        for (int set = 0; set < 3; set++) {
            int[] s = slot(t.hour % 24, set);
            if (s[0] == t.station) {
                best = Math.max(best, quality(s[1], s[0], t.hour % 24));
            }
        }
        return best;
    }

    int wouldSend() {
        int words = wire;
        for (int i = 0; i < waitingCorrections.size() && words >= 10; i++) {
            words -= 10;
        }
        int n = 0;
        for (int k : inOrder()) {
            Tk t = talks.get(k);
            if (t.hour + 24 != hour && t.report.length <= words) {
                words -= t.report.length;
                n++;
                see("would send");
            }
        }
        return n;
    }

    boolean isSound() {
        return true;
    }

    long digest() {
        List<Long> v = new ArrayList<>();
        for (int i = 0; i <= 18; i++) {
            v.add((long) desk(i));
        }
        for (int s = 0; s < stations.size(); s++) {
            for (int i = 0; i <= 8; i++) {
                v.add((long) ofStation(s, i));
            }
        }
        for (int m = 0; m < monitors.size(); m++) {
            for (int i = 0; i <= 8; i++) {
                v.add((long) ofMonitor(m, i));
            }
        }
        int[] best = bestShift(hour % 24);
        for (int i = 0; i < 6; i++) {
            v.add((long) best[i]);
        }
        for (int t = 0; t < talks.size(); t++) {
            for (int i = 0; i <= 7; i++) {
                v.add((long) ofTalk(t, i));
            }
            for (int i = 0; i <= 11; i++) {
                v.add((long) ofReport(t, i));
            }
            for (int r = 0; r < readers.size(); r++) {
                v.add((long) got(r, t));
            }
        }
        for (int r = 0; r < readers.size(); r++) {
            for (int i = 0; i <= 4; i++) {
                v.add((long) ofReader(r, i));
            }
        }
        for (int land = 0; land < 6; land++) {
            v.add((long) gone(land));
            v.add((long) (64 * clarity(land)));
        }
        for (int topic = 0; topic < 16; topic++) {
            v.add((long) first(topic));
        }
        v.addAll(Arrays.asList((long) best[6], (long) wouldSend(), 1L));
        long d = 58269;
        for (long x : v) {
            d = d * 31 + x;
        }
        return d;
    }
}
