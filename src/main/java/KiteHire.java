/**
 * A beach hut that hires kites out: kites, spools of line, tails, a wind that is foreseen hour by
 * hour, hires, and what would become of them. The document (DOC.md) tells each call as a promise.
 */
public final class KiteHire {
    public static final int UNKNOWN = -1;
    public static final int BAD_VALUE = -2;
    public static final int FULL = -3;
    public static final int NONE = -5;

    private static final int HOURS = 1000;
    private static final int LAST_HOUR = 999;
    private static final int MOST_WIND = 12;
    private static final int FIRST_WIND = 4;

    private static final int MOST_KITES = 16;
    private static final int MOST_PULL = 9;
    private static final int MOST_PRICE = 99;
    private static final int MOST_SPOOLS = 10;
    private static final int MOST_METRES = 300;
    private static final int COLOURS = 6;
    private static final int ALL_COLOURS = 63;
    private static final int FIRST_TAILS = 5;
    private static final int MOST_TAILS = 99;
    private static final int MOST_BOUGHT = 20;
    private static final int MOST_HIRES = 200;
    private static final int MOST_HOURS = 12;
    private static final int MOST_PASSED = 99;

    private static final int RED_FLAG = 0;
    private static final int STRENGTH = 1;
    private static final int SNAP_FEE = 2;
    private static final int TAIL_FEE = 3;
    private static final int SPARE = 4;
    private static final int SETTINGS = 5;
    private static final int[] SETTING_LEAST = {1, 20, 0, 0, 0};
    private static final int[] SETTING_MOST = {13, 999, 99, 99, 50};
    private static final int[] SETTING_FIRST = {8, 120, 15, 3, 5};

    // The columns of kites, spools, tails, hires and ended are numbered as the document numbers
    // what is told of them, so that a question is answered by its own number.
    private static final int KITE_IS = 0;
    private static final int KITE_LEAST = 1;
    private static final int KITE_MOST = 2;
    private static final int KITE_PULL = 3;
    private static final int KITE_PRICE = 4;
    private static final int KITE_FLOWN = 5;
    private static final int KITE_HIRES = 6;
    private static final int KITE_HIRE = 7;
    private static final int KITE_COLUMNS = 8;
    private static final int KITE_IN = 0;
    private static final int KITE_OUT = 1;
    private static final int KITE_LOST = 2;

    private static final int SPOOL_METRES = 0;
    private static final int SPOOL_WEAR = 1;
    private static final int SPOOL_HIRE = 2;
    private static final int SPOOL_LOST = 3;
    private static final int SPOOL_COLUMNS = 4;

    private static final int TAILS_IN = 0;
    private static final int TAILS_OUT = 1;
    private static final int TAILS_LOST = 2;
    private static final int TAILS_COLUMNS = 3;

    private static final int HIRE_KITE = 0;
    private static final int HIRE_SPOOL = 1;
    private static final int HIRE_METRES = 2;
    private static final int HIRE_LEFT = 3;
    private static final int HIRE_TAILS = 4;
    private static final int HIRE_PAID = 5;
    private static final int HIRE_TOLD = 6;
    private static final int HIRE_NUMBER = 6;
    private static final int HIRE_COLUMNS = 7;

    private static final int CAME_BACK = 0;
    private static final int CALLED_DOWN = 1;
    private static final int SNAPPED = 2;
    private static final int WAYS = 3;

    private static final int ENDED_HIRE = 0;
    private static final int ENDED_WAY = 1;
    private static final int ENDED_HOUR = 2;
    private static final int ENDED_COINS = 3;
    private static final int ENDED_COLUMNS = 4;
    private static final int ENDED_KEPT = 8;

    private static final int MOST_SIGNS = 60;
    private static final int SHORTEST_PART = 4;
    private static final int PART_KIND = 0;
    private static final int PART_COLUMNS = 5;
    private static final int WIND_PART = 1;
    private static final int KITE_PART = 2;
    private static final int MOST_PART_HOURS = 99;

    private static final int MOST_STATES = 4;
    private static final int COIN_SHIFT = 1000;
    private static final int PASSED_SHIFT = 100000;
    private static final int COUNTS = 23;

    private final Hut hut;
    private final Hut trial;
    private final Hut kept;
    private final Past past;
    private final Note note;
    private boolean anyKept;

    public KiteHire() {
        hut = new Hut();
        trial = new Hut();
        kept = new Hut();
        past = new Past();
        note = new Note();
    }

    // ---- wind, kites, spools, tails

    public int wind(int from, int to, int wind) {
        if (!within(from, hut.now, LAST_HOUR) || !within(to, from, LAST_HOUR)
                || !within(wind, 0, MOST_WIND)) {
            return BAD_VALUE;
        }
        int others = hut.otherWinds(from, to, wind);
        if (others == 0) {
            return NONE;
        }
        past.record(hut);
        hut.foresee(from, to, wind);
        return others;
    }

    public int kite(int least, int most, int pull, int price) {
        if (!within(least, 0, MOST_WIND) || !within(most, least, MOST_WIND)
                || !within(pull, 1, MOST_PULL) || !within(price, 1, MOST_PRICE)) {
            return BAD_VALUE;
        }
        if (hut.kitesCame >= MOST_KITES) {
            return FULL;
        }
        past.record(hut);
        return hut.addKite(least, most, pull, price);
    }

    public int spool(int metres) {
        if (!within(metres, 1, MOST_METRES)) {
            return BAD_VALUE;
        }
        if (hut.spoolsCame >= MOST_SPOOLS) {
            return FULL;
        }
        past.record(hut);
        return hut.addSpool(metres);
    }

    public int tails(int colour, int tails) {
        if (!isColour(colour)) {
            return UNKNOWN;
        }
        if (!within(tails, 1, MOST_BOUGHT)) {
            return BAD_VALUE;
        }
        if (hut.tailsOfColour(colour) + tails > MOST_TAILS) {
            return FULL;
        }
        past.record(hut);
        hut.tails.add(colour, TAILS_IN, tails);
        return hut.tails.at(colour, TAILS_IN);
    }

    public int tellAll() {
        int fault = note.findFault();
        if (fault != NONE) {
            return -100 - fault;
        }
        int error = errorOfParts();
        if (error != 0) {
            return error;
        }
        past.record(hut);
        tellParts();
        return note.partCount;
    }

    // ---- hires

    public int hire(int kite, int metres, int hours, int tails) {
        int reason = why(kite, metres, hours, tails);
        if (reason < 0) {
            return reason;
        }
        if (reason > 0) {
            return -10 - reason;
        }
        if (hut.hiresCame >= MOST_HIRES) {
            return FULL;
        }
        past.record(hut);
        return hut.beginHire(kite, metres, hours, tails);
    }

    public int back(int hire, int missing) {
        int row = hut.rowOfHire(hire);
        if (row < 0) {
            return UNKNOWN;
        }
        if (!within(missing, 0, ALL_COLOURS) || (missing & ~hut.hires.at(row, HIRE_TAILS)) != 0) {
            return BAD_VALUE;
        }
        past.record(hut);
        int given = hut.priceOfRest(row) / 2;
        int fees = Integer.bitCount(missing) * hut.setting(TAIL_FEE);
        hut.takeCoins(row, fees - given);
        hut.endHire(row, CAME_BACK, missing);
        return given - fees + COIN_SHIFT;
    }

    public int found(int colour) {
        if (!isColour(colour)) {
            return UNKNOWN;
        }
        if (hut.tails.at(colour, TAILS_LOST) <= 0) {
            return NONE;
        }
        past.record(hut);
        hut.moveTails(1 << colour, TAILS_LOST, TAILS_IN);
        return hut.tails.at(colour, TAILS_IN);
    }

    public int pass(int hours) {
        if (!within(hours, 1, MOST_PASSED)) {
            return BAD_VALUE;
        }
        if (hut.now + hours > HOURS) {
            return FULL;
        }
        past.record(hut);
        int ends = hut.endings;
        for (int passed = 0; passed < hours; passed++) {
            hut.passHour();
        }
        return hut.endings - ends;
    }

    public int set(int which, int value) {
        if (!isSettingValue(which, value)) {
            return BAD_VALUE;
        }
        int previous = hut.setting(which);
        if (previous == value) {
            return NONE;
        }
        past.record(hut);
        hut.settings.put(which, 0, value);
        return previous;
    }

    // ---- texts

    public int type(char character) {
        return note.append(character) ? note.length : FULL;
    }

    public int clearText() {
        int length = note.length;
        note.length = 0;
        return length;
    }

    public int fault() {
        return note.findFault();
    }

    // ---- history

    public int undo() {
        if (!past.takeLatest(hut)) {
            return NONE;
        }
        return past.held;
    }

    public int keep() {
        kept.copyFrom(hut);
        anyKept = true;
        return hut.now;
    }

    public int restore() {
        if (!anyKept) {
            return NONE;
        }
        past.record(hut);
        hut.copyFrom(kept);
        return hut.now;
    }

    // ---- what is told

    public int kiteOf(int kite, int what) {
        if (!isKite(kite)) {
            return UNKNOWN;
        }
        return within(what, 0, KITE_COLUMNS - 1) ? hut.kites.at(kite, what) : BAD_VALUE;
    }

    public int spoolOf(int spool, int what) {
        if (!within(spool, 0, hut.spoolsCame - 1)) {
            return UNKNOWN;
        }
        return within(what, 0, SPOOL_COLUMNS - 1) ? hut.spools.at(spool, what) : BAD_VALUE;
    }

    public int tailsOf(int colour, int what) {
        if (!isColour(colour)) {
            return UNKNOWN;
        }
        return within(what, 0, TAILS_COLUMNS - 1) ? hut.tails.at(colour, what) : BAD_VALUE;
    }

    public int hireOf(int hire, int what) {
        int row = hut.rowOfHire(hire);
        if (row < 0) {
            return UNKNOWN;
        }
        return within(what, 0, HIRE_TOLD - 1) ? hut.hires.at(row, what) : BAD_VALUE;
    }

    public int ended(int ago, int what) {
        if (!within(ago, 0, ENDED_KEPT - 1) || !within(what, 0, ENDED_COLUMNS - 1)) {
            return BAD_VALUE;
        }
        if (ago >= hut.endings) {
            return NONE;
        }
        return hut.ended.at((hut.endings - 1 - ago) % ENDED_KEPT, what);
    }

    public int windOf(int hour) {
        return within(hour, 0, LAST_HOUR) ? hut.windAt(hour) : UNKNOWN;
    }

    public int count(int what) {
        if (!within(what, 0, COUNTS - 1)) {
            return BAD_VALUE;
        }
        if (what >= COUNTS - SETTINGS) {
            return hut.setting(what - (COUNTS - SETTINGS));
        }
        switch (what) {
            case 16: return past.held;
            case 17: return note.length;
            default: return hut.tally(what);
        }
    }

    public double perHour() {
        return hut.flown > 0 ? (double) hut.coins / (double) hut.flown : 0.0;
    }

    // ---- what would be

    public int why(int kite, int metres, int hours, int tails) {
        if (!isKite(kite)) {
            return UNKNOWN;
        }
        if (!within(metres, 1, MOST_METRES) || !within(hours, 1, MOST_HOURS)
                || !within(tails, 0, ALL_COLOURS)) {
            return BAD_VALUE;
        }
        return hut.refusal(kite, metres, hours, tails);
    }

    public int next(int kite, int hours) {
        if (!isKite(kite)) {
            return UNKNOWN;
        }
        if (!within(hours, 1, MOST_HOURS)) {
            return BAD_VALUE;
        }
        for (int hour = hut.now; hour + hours <= HOURS; hour++) {
            if (!hut.tooCalm(kite, hour) && !hut.anyTooWindy(kite, hour, hours)) {
                return hour;
            }
        }
        return NONE;
    }

    public int longest(int kite, int metres) {
        if (!isKite(kite)) {
            return UNKNOWN;
        }
        if (!within(metres, 1, MOST_METRES)) {
            return BAD_VALUE;
        }
        int hours = hut.longestHire(kite, metres);
        return hours > 0 ? hours : NONE;
    }

    public int snapsIn(int hire) {
        int row = hut.rowOfHire(hire);
        return row < 0 ? UNKNOWN : hut.hoursToSnap(row);
    }

    public int flyable(int hour) {
        if (!within(hour, 0, LAST_HOUR)) {
            return UNKNOWN;
        }
        int set = 0;
        for (int kite = 0; kite < hut.kitesCame; kite++) {
            if (hut.kites.at(kite, KITE_IS) == KITE_IN && hut.flies(kite, hour)) {
                set |= 1 << kite;
            }
        }
        return set;
    }

    public int ifPassed(int hours, int what) {
        if (!within(hours, 1, MOST_PASSED) || !within(what, 0, 4)) {
            return BAD_VALUE;
        }
        trial.copyFrom(hut);
        for (int passed = 0; passed < hours && trial.now < HOURS; passed++) {
            trial.passHour();
        }
        switch (what) {
            case 3: return trial.flown - hut.flown;
            case 4: return trial.coins - hut.coins + PASSED_SHIFT;
            default: return trial.ways.at(what, 0) - hut.ways.at(what, 0);
        }
    }

    public int dearest(int metres) {
        if (!within(metres, 1, MOST_METRES)) {
            return BAD_VALUE;
        }
        int dearest = NONE;
        int most = 0;
        for (int kite = 0; kite < hut.kitesCame; kite++) {
            int coins = hut.kites.at(kite, KITE_PRICE) * hut.longestHire(kite, metres);
            if (coins > most) {
                most = coins;
                dearest = kite;
            }
        }
        return dearest;
    }

    // ---- what several calls share

    private static boolean within(int value, int least, int most) {
        return value >= least && value <= most;
    }

    private static boolean isColour(int colour) {
        return within(colour, 0, COLOURS - 1);
    }

    private boolean isKite(int kite) {
        return within(kite, 0, hut.kitesCame - 1);
    }

    private static boolean isSettingValue(int which, int value) {
        return which >= 0 && which < SETTING_LEAST.length && which < SETTING_MOST.length
                && within(value, SETTING_LEAST[which], SETTING_MOST[which]);
    }

    /** The first error of the parts of a text without a fault, 0 without one. */
    private int errorOfParts() {
        int hour = hut.now;
        int kites = hut.kitesCame;
        for (int part = 0; part < note.partCount; part++) {
            if (note.kindOf(part) == WIND_PART) {
                hour += note.numberOf(part, 2);
                if (hour > HOURS) {
                    return BAD_VALUE;
                }
            } else {
                if (note.numberOf(part, 2) < note.numberOf(part, 1)) {
                    return BAD_VALUE;
                }
                kites++;
                if (kites > MOST_KITES) {
                    return FULL;
                }
            }
        }
        return 0;
    }

    private void tellParts() {
        int hour = hut.now;
        for (int part = 0; part < note.partCount; part++) {
            int first = note.numberOf(part, 1);
            int second = note.numberOf(part, 2);
            if (note.kindOf(part) == WIND_PART) {
                hut.foresee(hour, hour + second - 1, first);
                hour += second;
            } else {
                hut.addKite(first, second, note.numberOf(part, 3), note.numberOf(part, 4));
            }
        }
    }

    /** Rows of numbers; a cell outside of the table reads as 0, and is never written. */
    private static final class Table {
        private final int columns;
        private final int[] cells;

        Table(int rows, int columns) {
            this.columns = columns;
            this.cells = new int[Math.max(0, rows * columns)];
        }

        int at(int row, int column) {
            int place = row * columns + column;
            return place >= 0 && place < cells.length ? cells[place] : 0;
        }

        void put(int row, int column, int value) {
            int place = row * columns + column;
            if (place >= 0 && place < cells.length) {
                cells[place] = value;
            }
        }

        void add(int row, int column, int more) {
            int place = row * columns + column;
            if (place >= 0 && place < cells.length) {
                cells[place] += more;
            }
        }

        /** Takes a row out; the rows behind it move up. */
        void dropRow(int row) {
            int place = row * columns;
            if (place < 0) {
                return;
            }
            for (int cell = place; cell + columns < cells.length; cell++) {
                cells[cell] = cells[cell + columns];
            }
        }

        void copyFrom(Table other) {
            int length = Math.min(cells.length, other.cells.length);
            System.arraycopy(other.cells, 0, cells, 0, length);
        }
    }

    /** A state of the hut: all that undo and the snapshot bring back. */
    private static final class Hut {
        private final Table winds = new Table(HOURS, 1);
        private final Table settings = new Table(SETTINGS, 1);
        private final Table kites = new Table(MOST_KITES, KITE_COLUMNS);
        private final Table spools = new Table(MOST_SPOOLS, SPOOL_COLUMNS);
        private final Table tails = new Table(COLOURS, TAILS_COLUMNS);
        // Only the hires that have not ended, by their numbers: each of them has a spool, so
        // there are never more of them than spools.
        private final Table hires = new Table(MOST_SPOOLS, HIRE_COLUMNS);
        private final Table ended = new Table(ENDED_KEPT, ENDED_COLUMNS);
        private final Table ways = new Table(WAYS, 1);
        private int now;
        private int kitesCame;
        private int spoolsCame;
        private int hiresCame;
        private int hiresOut;
        private int endings;
        private int coins;
        private int flown;

        Hut() {
            for (int hour = 0; hour < HOURS; hour++) {
                winds.put(hour, 0, FIRST_WIND);
            }
            for (int which = 0; which < SETTING_FIRST.length; which++) {
                settings.put(which, 0, SETTING_FIRST[which]);
            }
            for (int colour = 0; colour < COLOURS; colour++) {
                tails.put(colour, TAILS_IN, FIRST_TAILS);
            }
        }

        void copyFrom(Hut other) {
            winds.copyFrom(other.winds);
            settings.copyFrom(other.settings);
            kites.copyFrom(other.kites);
            spools.copyFrom(other.spools);
            tails.copyFrom(other.tails);
            hires.copyFrom(other.hires);
            ended.copyFrom(other.ended);
            ways.copyFrom(other.ways);
            now = other.now;
            kitesCame = other.kitesCame;
            spoolsCame = other.spoolsCame;
            hiresCame = other.hiresCame;
            hiresOut = other.hiresOut;
            endings = other.endings;
            coins = other.coins;
            flown = other.flown;
        }

        int setting(int which) {
            return settings.at(which, 0);
        }

        // ---- wind

        int windAt(int hour) {
            return winds.at(hour, 0);
        }

        int otherWinds(int from, int to, int wind) {
            int others = 0;
            for (int hour = from; hour <= to && hour < HOURS; hour++) {
                if (windAt(hour) != wind) {
                    others++;
                }
            }
            return others;
        }

        void foresee(int from, int to, int wind) {
            for (int hour = from; hour <= to && hour < HOURS; hour++) {
                winds.put(hour, 0, wind);
            }
        }

        boolean flagIsUp(int hour) {
            return hour < HOURS && windAt(hour) >= setting(RED_FLAG);
        }

        boolean tooWindy(int kite, int hour) {
            return hour < HOURS
                    && (windAt(hour) > kites.at(kite, KITE_MOST) || windAt(hour) >= setting(RED_FLAG));
        }

        boolean anyTooWindy(int kite, int from, int hours) {
            for (int ahead = 0; ahead < hours; ahead++) {
                if (tooWindy(kite, from + ahead)) {
                    return true;
                }
            }
            return false;
        }

        boolean tooCalm(int kite, int hour) {
            return hour < HOURS && windAt(hour) < kites.at(kite, KITE_LEAST);
        }

        boolean flies(int kite, int hour) {
            return !tooWindy(kite, hour) && !tooCalm(kite, hour);
        }

        // ---- kites, spools, tails

        int addKite(int least, int most, int pull, int price) {
            int kite = kitesCame;
            kites.put(kite, KITE_LEAST, least);
            kites.put(kite, KITE_MOST, most);
            kites.put(kite, KITE_PULL, pull);
            kites.put(kite, KITE_PRICE, price);
            kites.put(kite, KITE_HIRE, NONE);
            kitesCame++;
            return kite;
        }

        int addSpool(int metres) {
            int spool = spoolsCame;
            spools.put(spool, SPOOL_METRES, metres);
            spools.put(spool, SPOOL_HIRE, NONE);
            spoolsCame++;
            return spool;
        }

        int tailsOfColour(int colour) {
            return tails.at(colour, TAILS_IN) + tails.at(colour, TAILS_OUT)
                    + tails.at(colour, TAILS_LOST);
        }

        /** Moves one tail of each colour of a set from a column to another. */
        void moveTails(int set, int from, int to) {
            for (int colour = 0; colour < COLOURS; colour++) {
                int one = set >> colour & 1;
                tails.add(colour, from, -one);
                tails.add(colour, to, one);
            }
        }

        private boolean anyTailWanting(int set) {
            for (int colour = 0; colour < COLOURS; colour++) {
                if ((set >> colour & 1) == 1 && tails.at(colour, TAILS_IN) <= 0) {
                    return true;
                }
            }
            return false;
        }

        /** The spool that a hire of some metres takes, NONE if there is none for it. */
        private int spoolFor(int metres) {
            int best = NONE;
            for (int spool = 0; spool < spoolsCame; spool++) {
                boolean fits = spools.at(spool, SPOOL_HIRE) == NONE
                        && spools.at(spool, SPOOL_METRES) >= metres + setting(SPARE);
                if (fits && (best == NONE || isBetterSpool(spool, best))) {
                    best = spool;
                }
            }
            return best;
        }

        private boolean isBetterSpool(int spool, int than) {
            int metres = spools.at(spool, SPOOL_METRES);
            int others = spools.at(than, SPOOL_METRES);
            return metres < others
                    || metres == others && spools.at(spool, SPOOL_WEAR) < spools.at(than, SPOOL_WEAR);
        }

        // ---- hires

        /** The reason 1 to 6 for which a hire is refused, 0 if it is not. */
        int refusal(int kite, int metres, int hours, int set) {
            if (kites.at(kite, KITE_IS) != KITE_IN) {
                return 1;
            }
            if (anyTooWindy(kite, now, hours)) {
                return 2;
            }
            if (tooCalm(kite, now)) {
                return 3;
            }
            if (spoolFor(metres) == NONE) {
                return 4;
            }
            if (anyTailWanting(set)) {
                return 5;
            }
            return now + hours > HOURS ? 6 : 0;
        }

        /** The hours of the longest hire without tails, 0 if each would be refused. */
        int longestHire(int kite, int metres) {
            for (int hours = MOST_HOURS; hours > 0; hours--) {
                if (refusal(kite, metres, hours, 0) == 0) {
                    return hours;
                }
            }
            return 0;
        }

        int beginHire(int kite, int metres, int hours, int set) {
            int number = hiresCame;
            int row = hiresOut;
            int spool = spoolFor(metres);
            hires.put(row, HIRE_KITE, kite);
            hires.put(row, HIRE_SPOOL, spool);
            hires.put(row, HIRE_METRES, metres);
            hires.put(row, HIRE_LEFT, hours);
            hires.put(row, HIRE_TAILS, set);
            hires.put(row, HIRE_PAID, 0);
            hires.put(row, HIRE_NUMBER, number);
            hiresCame++;
            hiresOut++;
            kites.put(kite, KITE_IS, KITE_OUT);
            kites.put(kite, KITE_HIRE, number);
            kites.add(kite, KITE_HIRES, 1);
            spools.put(spool, SPOOL_HIRE, number);
            moveTails(set, TAILS_IN, TAILS_OUT);
            takeCoins(row, priceOfRest(row));
            return number;
        }

        /** The row of a hire that has not ended, NONE if there is no such hire. */
        int rowOfHire(int hire) {
            for (int row = 0; row < hiresOut; row++) {
                if (hires.at(row, HIRE_NUMBER) == hire) {
                    return row;
                }
            }
            return NONE;
        }

        private int priceOfHour(int row) {
            return kites.at(hires.at(row, HIRE_KITE), KITE_PRICE);
        }

        int priceOfRest(int row) {
            return priceOfHour(row) * hires.at(row, HIRE_LEFT);
        }

        /** Takes coins from the hirer, or gives them back if they are below 0. */
        void takeCoins(int row, int more) {
            hires.add(row, HIRE_PAID, more);
            coins += more;
        }

        void endHire(int row, int way, int missing) {
            int kite = hires.at(row, HIRE_KITE);
            kites.put(kite, KITE_IS, way == SNAPPED ? KITE_LOST : KITE_IN);
            kites.put(kite, KITE_HIRE, NONE);
            spools.put(hires.at(row, HIRE_SPOOL), SPOOL_HIRE, NONE);
            moveTails(hires.at(row, HIRE_TAILS) & ~missing, TAILS_OUT, TAILS_IN);
            moveTails(missing, TAILS_OUT, TAILS_LOST);
            int place = endings % ENDED_KEPT;
            ended.put(place, ENDED_HIRE, hires.at(row, HIRE_NUMBER));
            ended.put(place, ENDED_WAY, way);
            ended.put(place, ENDED_HOUR, now);
            ended.put(place, ENDED_COINS, hires.at(row, HIRE_PAID) + COIN_SHIFT);
            endings++;
            ways.add(way, 0, 1);
            hires.dropRow(row);
            hiresOut--;
        }

        // ---- an hour

        void passHour() {
            int row = 0;
            for (int waiting = hiresOut; waiting > 0; waiting--) {
                int ends = endings;
                passHourOf(row);
                // A hire that ended left its row to the one behind it.
                if (endings == ends) {
                    row++;
                }
            }
            now++;
        }

        private void passHourOf(int row) {
            int kite = hires.at(row, HIRE_KITE);
            if (tooWindy(kite, now)) {
                takeCoins(row, -priceOfRest(row));
                endHire(row, CALLED_DOWN, 0);
                return;
            }
            if (tooCalm(kite, now)) {
                takeCoins(row, -priceOfHour(row));
            } else if (wearSnaps(row)) {
                snapLine(row);
                return;
            }
            hires.add(row, HIRE_LEFT, -1);
            if (hires.at(row, HIRE_LEFT) <= 0) {
                endHire(row, CAME_BACK, 0);
            }
        }

        /** Flies a hire for the hour of now and tells whether its line snaps. */
        private boolean wearSnaps(int row) {
            int kite = hires.at(row, HIRE_KITE);
            int spool = hires.at(row, HIRE_SPOOL);
            kites.add(kite, KITE_FLOWN, 1);
            flown++;
            spools.add(spool, SPOOL_WEAR, windAt(now) * kites.at(kite, KITE_PULL));
            return spools.at(spool, SPOOL_WEAR) >= setting(STRENGTH);
        }

        private void snapLine(int row) {
            int spool = hires.at(row, HIRE_SPOOL);
            int metres = hires.at(row, HIRE_METRES);
            int set = hires.at(row, HIRE_TAILS);
            spools.add(spool, SPOOL_METRES, -metres);
            spools.add(spool, SPOOL_LOST, metres);
            spools.put(spool, SPOOL_WEAR, 0);
            takeCoins(row, setting(SNAP_FEE) + Integer.bitCount(set) * setting(TAIL_FEE));
            endHire(row, SNAPPED, set);
        }

        /** In how many hours the line of a hire that is out for ever snaps, NONE if it never does. */
        int hoursToSnap(int row) {
            int kite = hires.at(row, HIRE_KITE);
            int wear = spools.at(hires.at(row, HIRE_SPOOL), SPOOL_WEAR);
            for (int hour = now; hour < HOURS; hour++) {
                if (flies(kite, hour)) {
                    wear += windAt(hour) * kites.at(kite, KITE_PULL);
                    if (wear >= setting(STRENGTH)) {
                        return hour - now + 1;
                    }
                }
            }
            return NONE;
        }

        // ---- counts

        /** What is counted of the state, by the numbers of the document up to 15. */
        int tally(int what) {
            switch (what) {
                case 0: return now;
                case 1: return kitesCame;
                case 2: return kitesThatAre(KITE_IN);
                case 3: return kitesThatAre(KITE_OUT);
                case 4: return kitesThatAre(KITE_LOST);
                case 5: return spoolsCame;
                case 6: return hiresCame;
                case 7: return hiresOut;
                case 8: return ways.at(CAME_BACK, 0);
                case 9: return ways.at(CALLED_DOWN, 0);
                case 10: return ways.at(SNAPPED, 0);
                case 11: return coins;
                case 12: return sumOfSpools(SPOOL_METRES);
                case 13: return sumOfSpools(SPOOL_LOST);
                case 14: return flown;
                default: return flagIsUp(now) ? 1 : 0;
            }
        }

        private int kitesThatAre(int how) {
            int sum = 0;
            for (int kite = 0; kite < kitesCame; kite++) {
                if (kites.at(kite, KITE_IS) == how) {
                    sum++;
                }
            }
            return sum;
        }

        private int sumOfSpools(int column) {
            int sum = 0;
            for (int spool = 0; spool < spoolsCame; spool++) {
                sum += spools.at(spool, column);
            }
            return sum;
        }
    }

    /** The history: its states are made once and used in turn, the oldest one again when full. */
    private static final class Past {
        private final Hut[] states = new Hut[MOST_STATES];
        private int latest;
        private int held;

        Past() {
            for (int slot = 0; slot < states.length; slot++) {
                states[slot] = new Hut();
            }
        }

        private Hut stateAt(int slot) {
            return slot >= 0 && slot < states.length ? states[slot] : null;
        }

        void record(Hut hut) {
            latest = (latest + 1) % MOST_STATES;
            Hut state = stateAt(latest);
            if (state != null) {
                state.copyFrom(hut);
            }
            held = Math.min(held + 1, MOST_STATES);
        }

        /** Brings the latest state back into the hut and forgets it; false if there is none. */
        boolean takeLatest(Hut hut) {
            Hut state = stateAt(latest);
            if (held <= 0 || state == null) {
                return false;
            }
            hut.copyFrom(state);
            latest = (latest + MOST_STATES - 1) % MOST_STATES;
            held--;
            return true;
        }
    }

    /** The text, and its parts as they were read last. */
    private static final class Note {
        private final char[] signs = new char[MOST_SIGNS];
        private final Table parts = new Table(MOST_SIGNS / SHORTEST_PART, PART_COLUMNS);
        private int length;
        private int partCount;
        private int place;

        boolean append(char sign) {
            if (length < 0 || length >= signs.length) {
                return false;
            }
            signs[length] = sign;
            length++;
            return true;
        }

        int kindOf(int part) {
            return parts.at(part, PART_KIND);
        }

        /** A number of a part, by its place in it, from 1. */
        int numberOf(int part, int which) {
            return parts.at(part, which);
        }

        /** Reads the parts and tells the fault of the text, NONE if it has none. */
        int findFault() {
            place = 0;
            partCount = 0;
            for (int turn = 0; turn < MOST_SIGNS; turn++) {
                if (!readPart()) {
                    return place;
                }
                partCount++;
                if (place >= length) {
                    return NONE;
                }
                if (!takeSign(';')) {
                    return place;
                }
            }
            return place;
        }

        /** Reads a part; if it has a fault, the place stays at it. */
        private boolean readPart() {
            if (takeSign('w')) {
                parts.put(partCount, PART_KIND, WIND_PART);
                return readNumber(1, 0, MOST_WIND) && takeSign('x')
                        && readNumber(2, 1, MOST_PART_HOURS);
            }
            if (takeSign('k')) {
                parts.put(partCount, PART_KIND, KITE_PART);
                return readNumber(1, 0, MOST_WIND) && takeSign('-')
                        && readNumber(2, 0, MOST_WIND) && takeSign('*')
                        && readNumber(3, 1, MOST_PULL) && takeSign('$')
                        && readNumber(4, 1, MOST_PRICE);
            }
            return false;
        }

        private boolean takeSign(char sign) {
            if (place < 0 || place >= length || place >= signs.length || signs[place] != sign) {
                return false;
            }
            place++;
            return true;
        }

        /** The digit at the place, -1 if none stands there. */
        private int digitHere() {
            if (place < 0 || place >= length || place >= signs.length) {
                return -1;
            }
            char sign = signs[place];
            return sign >= '0' && sign <= '9' ? sign - '0' : -1;
        }

        private boolean readNumber(int which, int least, int most) {
            int number = digitHere();
            if (number < least) {
                return false;
            }
            place++;
            // No number goes above 99. A digit that would be one too many is left where it is:
            // no sign that may stand behind a number is a digit, so the fault is found there.
            int second = digitHere();
            if (number > 0 && second >= 0 && number * 10 + second <= most) {
                number = number * 10 + second;
                place++;
            }
            parts.put(partCount, which, number);
            return true;
        }
    }
}
