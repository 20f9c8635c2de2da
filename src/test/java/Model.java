import java.util.ArrayList;
import java.util.Arrays;
import java.util.Comparator;
import java.util.List;
import java.util.Optional;
import java.util.regex.Matcher;
import java.util.regex.Pattern;

/**
 * The document once more, written another way and as plainly as the Java library allows: every
 * state is a copy of its own, every hire is kept for ever, texts are read by patterns.
 */
final class Model {
    static final class Kite {
        int is;
        int least;
        int most;
        int pull;
        int price;
        int flown;
        int hires;
        int hire = -5;

        Kite copy() {
            Kite k = new Kite();
            k.is = is;
            k.least = least;
            k.most = most;
            k.pull = pull;
            k.price = price;
            k.flown = flown;
            k.hires = hires;
            k.hire = hire;
            return k;
        }
    }

    static final class Spool {
        int number;
        int metres;
        int wear;
        int hire = -5;
        int lost;

        Spool copy() {
            Spool s = new Spool();
            s.number = number;
            s.metres = metres;
            s.wear = wear;
            s.hire = hire;
            s.lost = lost;
            return s;
        }
    }

    static final class Hire {
        int number;
        int kite;
        int spool;
        int metres;
        int left;
        int tails;
        int paid;
        int way = -1;
        int hour;

        Hire copy() {
            Hire h = new Hire();
            h.number = number;
            h.kite = kite;
            h.spool = spool;
            h.metres = metres;
            h.left = left;
            h.tails = tails;
            h.paid = paid;
            h.way = way;
            h.hour = hour;
            return h;
        }
    }

    static final class State {
        int now;
        int coins;
        int flown;
        int[] winds = new int[1000];
        int[] settings = {8, 120, 15, 3, 5};
        int[][] tails = new int[6][];
        List<Kite> kites = new ArrayList<>();
        List<Spool> spools = new ArrayList<>();
        List<Hire> hires = new ArrayList<>();
        List<Integer> ended = new ArrayList<>();

        State copy() {
            State s = new State();
            s.now = now;
            s.coins = coins;
            s.flown = flown;
            s.winds = winds.clone();
            s.settings = settings.clone();
            for (int colour = 0; colour < 6; colour++) {
                s.tails[colour] = tails[colour].clone();
            }
            kites.forEach(k -> s.kites.add(k.copy()));
            spools.forEach(p -> s.spools.add(p.copy()));
            hires.forEach(h -> s.hires.add(h.copy()));
            s.ended.addAll(ended);
            return s;
        }
    }

    private static final String WIND_PART = "w(0|[1-9]|1[0-2])x([1-9]|[1-9][0-9])";
    private static final String KITE_PART =
            "k(0|[1-9]|1[0-2])-(0|[1-9]|1[0-2])\\*([1-9])\\$([1-9]|[1-9][0-9])";
    private static final String PART = "(" + WIND_PART + "|" + KITE_PART + ")";
    private static final Pattern TEXT = Pattern.compile(PART + "(;" + PART + ")*");
    private static final Pattern WIND = Pattern.compile(WIND_PART);
    private static final Pattern KITE = Pattern.compile(KITE_PART);

    private State s = new State();
    private State kept = null;
    private final List<State> history = new ArrayList<>();
    private String text = "";

    Model() {
        Arrays.fill(s.winds, 4);
        for (int colour = 0; colour < 6; colour++) {
            s.tails[colour] = new int[] {5, 0, 0};
        }
    }

    private void record(State before) {
        history.add(before);
        if (history.size() > 4) {
            history.remove(0);
        }
    }

    private static boolean out(int value, int least, int most) {
        return value < least || value > most;
    }

    int wind(int from, int to, int wind) {
        if (out(from, s.now, 999) || out(to, from, 999) || out(wind, 0, 12)) {
            return -2;
        }
        State before = s.copy();
        int others = 0;
        for (int hour = from; hour <= to; hour++) {
            others += s.winds[hour] == wind ? 0 : 1;
            s.winds[hour] = wind;
        }
        if (others == 0) {
            return -5;
        }
        record(before);
        return others;
    }

    int kite(int least, int most, int pull, int price) {
        if (out(least, 0, 12) || out(most, least, 12) || out(pull, 1, 9) || out(price, 1, 99)) {
            return -2;
        }
        if (s.kites.size() == 16) {
            return -3;
        }
        record(s.copy());
        comes(least, most, pull, price);
        return s.kites.size() - 1;
    }

    private void comes(int least, int most, int pull, int price) {
        Kite kite = new Kite();
        kite.least = least;
        kite.most = most;
        kite.pull = pull;
        kite.price = price;
        s.kites.add(kite);
    }

    int spool(int metres) {
        if (out(metres, 1, 300)) {
            return -2;
        }
        if (s.spools.size() == 10) {
            return -3;
        }
        record(s.copy());
        Spool spool = new Spool();
        spool.number = s.spools.size();
        spool.metres = metres;
        s.spools.add(spool);
        return spool.number;
    }

    int tails(int colour, int tails) {
        if (out(colour, 0, 5)) {
            return -1;
        }
        if (out(tails, 1, 20)) {
            return -2;
        }
        if (Arrays.stream(s.tails[colour]).sum() + tails > 99) {
            return -3;
        }
        record(s.copy());
        s.tails[colour][0] += tails;
        return s.tails[colour][0];
    }

    int tellAll() {
        int fault = fault();
        if (fault != -5) {
            return -100 - fault;
        }
        State before = s.copy();
        int answer = tell(text.split(";"));
        if (answer < 0) {
            s = before;
        } else {
            record(before);
        }
        return answer;
    }

    private int tell(String[] parts) {
        int hour = s.now;
        for (String part : parts) {
            Matcher wind = WIND.matcher(part);
            Matcher kite = KITE.matcher(part);
            if (wind.matches()) {
                for (int left = number(wind, 2); left > 0; left--) {
                    if (hour > 999) {
                        return -2;
                    }
                    s.winds[hour] = number(wind, 1);
                    hour++;
                }
            } else if (kite.matches()) {
                if (number(kite, 2) < number(kite, 1)) {
                    return -2;
                }
                if (s.kites.size() == 16) {
                    return -3;
                }
                comes(number(kite, 1), number(kite, 2), number(kite, 3), number(kite, 4));
            }
        }
        return parts.length;
    }

    private static int number(Matcher matcher, int group) {
        return Integer.parseInt(matcher.group(group));
    }

    int hire(int kite, int metres, int hours, int tails) {
        int reason = why(kite, metres, hours, tails);
        if (reason != 0) {
            return reason < 0 ? reason : -10 - reason;
        }
        if (s.hires.size() == 200) {
            return -3;
        }
        record(s.copy());
        Hire hire = new Hire();
        hire.number = s.hires.size();
        hire.kite = kite;
        hire.spool = spoolFor(metres).orElseThrow().number;
        hire.metres = metres;
        hire.left = hours;
        hire.tails = tails;
        s.hires.add(hire);
        Kite hired = s.kites.get(kite);
        hired.is = 1;
        hired.hires++;
        hired.hire = hire.number;
        s.spools.get(hire.spool).hire = hire.number;
        for (int colour = 0; colour < 6; colour++) {
            if ((tails & 1 << colour) != 0) {
                s.tails[colour][0]--;
                s.tails[colour][1]++;
            }
        }
        pays(hire, hours * hired.price);
        return hire.number;
    }

    private Optional<Spool> spoolFor(int metres) {
        return s.spools.stream()
                .filter(p -> p.hire == -5 && p.metres >= metres + s.settings[4])
                .min(Comparator.<Spool>comparingInt(p -> p.metres)
                        .thenComparingInt(p -> p.wear).thenComparingInt(p -> p.number));
    }

    private void pays(Hire hire, int coins) {
        hire.paid += coins;
        s.coins += coins;
    }

    private void ends(Hire hire, int way, int missing) {
        hire.way = way;
        hire.hour = s.now;
        s.ended.add(0, hire.number);
        Kite kite = s.kites.get(hire.kite);
        kite.is = way == 2 ? 2 : 0;
        kite.hire = -5;
        s.spools.get(hire.spool).hire = -5;
        for (int colour = 0; colour < 6; colour++) {
            if ((hire.tails & 1 << colour) != 0) {
                s.tails[colour][1]--;
                s.tails[colour][(missing & 1 << colour) != 0 ? 2 : 0]++;
            }
        }
    }

    private Hire outHire(int number) {
        return s.hires.stream().filter(h -> h.number == number && h.way == -1).findFirst().orElse(null);
    }

    int back(int number, int missing) {
        Hire hire = outHire(number);
        if (hire == null) {
            return -1;
        }
        if (missing < 0 || missing > 63 || (hire.tails | missing) != hire.tails) {
            return -2;
        }
        record(s.copy());
        int given = s.kites.get(hire.kite).price * hire.left / 2;
        int fees = 0;
        for (int colour = 0; colour < 6; colour++) {
            fees += (missing & 1 << colour) != 0 ? s.settings[3] : 0;
        }
        pays(hire, -given);
        pays(hire, fees);
        ends(hire, 0, missing);
        return 1000 + given - fees;
    }

    int found(int colour) {
        if (out(colour, 0, 5)) {
            return -1;
        }
        if (s.tails[colour][2] == 0) {
            return -5;
        }
        record(s.copy());
        s.tails[colour][2]--;
        return ++s.tails[colour][0];
    }

    int pass(int hours) {
        if (out(hours, 1, 99)) {
            return -2;
        }
        if (s.now + hours > 1000) {
            return -3;
        }
        record(s.copy());
        int before = s.ended.size();
        for (int i = 0; i < hours; i++) {
            anHour();
        }
        return s.ended.size() - before;
    }

    private void anHour() {
        int wind = s.winds[s.now];
        for (Hire hire : s.hires) {
            if (hire.way != -1) {
                continue;
            }
            Kite kite = s.kites.get(hire.kite);
            Spool spool = s.spools.get(hire.spool);
            if (wind > kite.most || wind >= s.settings[0]) {
                pays(hire, -kite.price * hire.left);
                ends(hire, 1, 0);
            } else if (wind < kite.least) {
                pays(hire, -kite.price);
            } else {
                kite.flown++;
                s.flown++;
                spool.wear += wind * kite.pull;
                if (spool.wear >= s.settings[1]) {
                    spool.metres -= hire.metres;
                    spool.lost += hire.metres;
                    spool.wear = 0;
                    pays(hire, s.settings[2] + Integer.bitCount(hire.tails) * s.settings[3]);
                    ends(hire, 2, hire.tails);
                }
            }
            if (hire.way == -1) {
                hire.left--;
                if (hire.left == 0) {
                    ends(hire, 0, 0);
                }
            }
        }
        s.now++;
    }

    int set(int which, int value) {
        int[][] ranges = {{1, 13}, {20, 999}, {0, 99}, {0, 99}, {0, 50}};
        if (out(which, 0, 4) || out(value, ranges[which][0], ranges[which][1])) {
            return -2;
        }
        int previous = s.settings[which];
        if (previous == value) {
            return -5;
        }
        record(s.copy());
        s.settings[which] = value;
        return previous;
    }

    int type(char character) {
        if (text.length() == 60) {
            return -3;
        }
        text += character;
        return text.length();
    }

    int clearText() {
        int length = text.length();
        text = "";
        return length;
    }

    int fault() {
        for (int length = 1; length <= text.length(); length++) {
            Matcher matcher = TEXT.matcher(text.substring(0, length));
            if (!matcher.matches() && !matcher.hitEnd()) {
                return length - 1;
            }
        }
        return TEXT.matcher(text).matches() ? -5 : text.length();
    }

    int undo() {
        if (history.isEmpty()) {
            return -5;
        }
        s = history.remove(history.size() - 1);
        return history.size();
    }

    int keep() {
        kept = s.copy();
        return s.now;
    }

    int restore() {
        if (kept == null) {
            return -5;
        }
        record(s);
        s = kept.copy();
        return s.now;
    }

    int kiteOf(int kite, int what) {
        if (out(kite, 0, s.kites.size() - 1)) {
            return -1;
        }
        Kite k = s.kites.get(kite);
        int[] told = {k.is, k.least, k.most, k.pull, k.price, k.flown, k.hires, k.hire};
        return out(what, 0, 7) ? -2 : told[what];
    }

    int spoolOf(int spool, int what) {
        if (out(spool, 0, s.spools.size() - 1)) {
            return -1;
        }
        Spool p = s.spools.get(spool);
        int[] told = {p.metres, p.wear, p.hire, p.lost};
        return out(what, 0, 3) ? -2 : told[what];
    }

    int tailsOf(int colour, int what) {
        if (out(colour, 0, 5)) {
            return -1;
        }
        return out(what, 0, 2) ? -2 : s.tails[colour][what];
    }

    int hireOf(int number, int what) {
        Hire h = outHire(number);
        if (h == null) {
            return -1;
        }
        int[] told = {h.kite, h.spool, h.metres, h.left, h.tails, h.paid};
        return out(what, 0, 5) ? -2 : told[what];
    }

    int ended(int ago, int what) {
        if (out(ago, 0, 7) || out(what, 0, 3)) {
            return -2;
        }
        if (ago >= s.ended.size()) {
            return -5;
        }
        Hire h = s.hires.get(s.ended.get(ago));
        return new int[] {h.number, h.way, h.hour, h.paid + 1000}[what];
    }

    int windOf(int hour) {
        return out(hour, 0, 999) ? -1 : s.winds[hour];
    }

    private int kitesThatAre(int how) {
        return (int) s.kites.stream().filter(k -> k.is == how).count();
    }

    private int hiresThat(int way) {
        return (int) s.hires.stream().filter(h -> h.way == way).count();
    }

    int count(int what) {
        int[] told = {s.now, s.kites.size(), kitesThatAre(0), kitesThatAre(1), kitesThatAre(2),
            s.spools.size(), s.hires.size(), hiresThat(-1), hiresThat(0), hiresThat(1), hiresThat(2),
            s.hires.stream().mapToInt(h -> h.paid).sum(),
            s.spools.stream().mapToInt(p -> p.metres).sum(),
            s.spools.stream().mapToInt(p -> p.lost).sum(),
            s.kites.stream().mapToInt(k -> k.flown).sum(),
            s.now <= 999 && s.winds[s.now] >= s.settings[0] ? 1 : 0,
            history.size(), text.length(),
            s.settings[0], s.settings[1], s.settings[2], s.settings[3], s.settings[4]};
        return out(what, 0, 22) ? -2 : told[what];
    }

    double perHour() {
        return s.flown == 0 ? 0.0 : (double) s.coins / s.flown;
    }

    private boolean storm(Kite kite, int hour) {
        return hour <= 999 && (s.winds[hour] > kite.most || s.winds[hour] >= s.settings[0]);
    }

    private boolean calm(Kite kite, int hour) {
        return hour <= 999 && s.winds[hour] < kite.least;
    }

    int why(int number, int metres, int hours, int tails) {
        if (out(number, 0, s.kites.size() - 1)) {
            return -1;
        }
        if (out(metres, 1, 300) || out(hours, 1, 12) || out(tails, 0, 63)) {
            return -2;
        }
        Kite kite = s.kites.get(number);
        boolean storm = false;
        boolean wanting = false;
        for (int hour = s.now; hour < s.now + hours; hour++) {
            storm = storm || storm(kite, hour);
        }
        for (int colour = 0; colour < 6; colour++) {
            wanting = wanting || (tails & 1 << colour) != 0 && s.tails[colour][0] == 0;
        }
        boolean[] reasons = {kite.is != 0, storm, calm(kite, s.now), spoolFor(metres).isEmpty(), wanting,
            s.now + hours - 1 > 999};
        for (int reason = 1; reason <= 6; reason++) {
            if (reasons[reason - 1]) {
                return reason;
            }
        }
        return 0;
    }

    int next(int number, int hours) {
        if (out(number, 0, s.kites.size() - 1)) {
            return -1;
        }
        if (out(hours, 1, 12)) {
            return -2;
        }
        Kite kite = s.kites.get(number);
        for (int first = s.now; first + hours - 1 <= 999; first++) {
            boolean good = !calm(kite, first);
            for (int hour = first; hour < first + hours; hour++) {
                good = good && !storm(kite, hour);
            }
            if (good) {
                return first;
            }
        }
        return -5;
    }

    int longest(int kite, int metres) {
        if (out(kite, 0, s.kites.size() - 1)) {
            return -1;
        }
        if (out(metres, 1, 300)) {
            return -2;
        }
        int longest = -5;
        for (int hours = 1; hours <= 12; hours++) {
            longest = why(kite, metres, hours, 0) == 0 ? hours : longest;
        }
        return longest;
    }

    int snapsIn(int number) {
        Hire hire = outHire(number);
        if (hire == null) {
            return -1;
        }
        Kite kite = s.kites.get(hire.kite);
        int wear = s.spools.get(hire.spool).wear;
        for (int hours = 1; s.now + hours - 1 <= 999; hours++) {
            int hour = s.now + hours - 1;
            if (storm(kite, hour) || calm(kite, hour)) {
                continue;
            }
            wear += s.winds[hour] * kite.pull;
            if (wear >= s.settings[1]) {
                return hours;
            }
        }
        return -5;
    }

    int flyable(int hour) {
        if (out(hour, 0, 999)) {
            return -1;
        }
        int set = 0;
        for (int i = 0; i < s.kites.size(); i++) {
            Kite kite = s.kites.get(i);
            set += kite.is == 0 && !storm(kite, hour) && !calm(kite, hour) ? 1 << i : 0;
        }
        return set;
    }

    int ifPassed(int hours, int what) {
        if (out(hours, 1, 99) || out(what, 0, 4)) {
            return -2;
        }
        State before = s;
        int[] first = totals();
        s = s.copy();
        for (int i = 0; i < hours && s.now <= 999; i++) {
            anHour();
        }
        int[] then = totals();
        s = before;
        return then[what] - first[what] + (what == 4 ? 100000 : 0);
    }

    private int[] totals() {
        return new int[] {hiresThat(0), hiresThat(1), hiresThat(2), s.flown, s.coins};
    }

    int dearest(int metres) {
        if (out(metres, 1, 300)) {
            return -2;
        }
        int best = -5;
        int most = 0;
        for (int kite = s.kites.size() - 1; kite >= 0; kite--) {
            int hours = longest(kite, metres);
            if (hours > 0 && hours * s.kites.get(kite).price >= most) {
                most = hours * s.kites.get(kite).price;
                best = kite;
            }
        }
        return best;
    }
}
