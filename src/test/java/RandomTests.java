import java.util.Random;

/** Runs of 512 calls by chance (always the same ones), each answer compared with the model's. */
final class RandomTests {
    private static final int CALLS = 512;
    private static final int[] EDGES = {Integer.MIN_VALUE, -1, 0, 1, 5, 6, 7, 8, 10, 12, 13, 16, 63, 64,
        99, 100, 200, 300, 301, 999, 1000, Integer.MAX_VALUE};

    private final Checks c;
    private final Random random = new Random();
    private KiteHire x;
    private Model m;
    private int style;

    RandomTests(Checks checks) {
        c = checks;
    }

    void run() {
        for (int group = 0; group < 8; group++) {
            int kind = group;
            c.test("all promises: runs by chance, style " + group, () -> runs(kind, 60));
        }
    }

    private void runs(int kind, int runs) {
        style = kind;
        for (int run = 0; run < runs && !c.anyWrong(); run++) {
            random.setSeed(kind * 1000L + run);
            x = new KiteHire();
            m = new Model();
            start();
            for (int call = x.count(1) + x.count(5); call < CALLS && !c.anyWrong(); call++) {
                if (random.nextInt(100) < 70) {
                    act();
                } else {
                    ask();
                }
            }
            lookAtAll();
        }
    }

    private int to(int most) {
        return random.nextInt(most + 1);
    }

    /** A number from least to most; now and then one beside them. */
    private int from(int least, int most) {
        int chance = random.nextInt(60);
        if (chance == 0) {
            return EDGES[random.nextInt(EDGES.length)];
        }
        if (chance == 1) {
            return random.nextBoolean() ? least - 1 : most + 1;
        }
        return least + random.nextInt(Math.max(1, most - least + 1));
    }

    private void start() {
        for (int kite = to(8); kite > 0; kite--) {
            kite();
        }
        for (int spool = to(6); spool > 0; spool--) {
            spool();
        }
    }

    private void due(String call, int got, int want, int... a) {
        StringBuilder name = new StringBuilder("style " + style + ": " + call + "(");
        for (int i = 0; i < a.length; i++) {
            name.append(i == 0 ? "" : ", ").append(a[i]);
        }
        c.due(name.append(") in hour " + m.count(0)).toString(), got, want);
    }

    private void act() {
        int chance = random.nextInt(100);
        if (chance < 12) {
            wind();
        } else if (chance < 17) {
            kite();
        } else if (chance < 21) {
            spool();
        } else if (chance < 24) {
            int colour = from(0, 5);
            int tails = from(1, 20);
            due("tails", x.tails(colour, tails), m.tails(colour, tails), colour, tails);
        } else if (chance < 54) {
            hire();
        } else if (chance < 60) {
            back();
        } else if (chance < 63) {
            int colour = from(0, 5);
            due("found", x.found(colour), m.found(colour), colour);
        } else if (chance < 79) {
            pass();
        } else if (chance < 84) {
            set();
        } else if (chance < 90) {
            text();
        } else if (chance < 96) {
            due("undo", x.undo(), m.undo());
        } else if (chance < 98) {
            due("keep", x.keep(), m.keep());
        } else {
            due("restore", x.restore(), m.restore());
        }
    }

    private void wind() {
        int now = m.count(0);
        int first = from(now, random.nextInt(3) > 0 ? Math.min(now + 12, 999) : 999);
        int last = from(first, random.nextInt(3) > 0 ? Math.min(first + 3, 999) : 999);
        int wind = random.nextInt(3) > 0 ? from(2, 7) : from(0, 12);
        due("wind", x.wind(first, last, wind), m.wind(first, last, wind), first, last, wind);
    }

    private void kite() {
        int least = random.nextInt(2) > 0 ? to(4) : from(0, 12);
        int most = from(least, 12);
        int pull = style % 2 == 0 ? from(1, 9) : from(1, 2);
        int price = from(1, 99);
        due("kite", x.kite(least, most, pull, price), m.kite(least, most, pull, price), least, most,
                pull, price);
    }

    private void spool() {
        int metres = random.nextInt(2) > 0 ? 10 * from(1, 9) : from(1, 300);
        due("spool", x.spool(metres), m.spool(metres), metres);
    }

    private void hire() {
        int kite = from(0, Math.max(0, m.count(1) - 1));
        int metres = random.nextInt(4) > 0 ? from(1, 40) : from(1, 300);
        int hours = from(1, 12);
        int tails = random.nextInt(3) > 0 ? to(63) & to(63) : from(0, 63);
        due("why", x.why(kite, metres, hours, tails), m.why(kite, metres, hours, tails), kite, metres,
                hours, tails);
        due("hire", x.hire(kite, metres, hours, tails), m.hire(kite, metres, hours, tails), kite,
                metres, hours, tails);
    }

    /** A hire that is out, if there is one; now and then another number. */
    private int anyHire() {
        int hire = from(0, Math.max(0, m.count(6)));
        for (int tries = 0; tries < 200 && m.hireOf(hire, 0) < 0 && random.nextInt(20) > 0; tries++) {
            hire = to(Math.max(0, m.count(6)));
        }
        return hire;
    }

    private void back() {
        int hire = anyHire();
        int tails = Math.max(0, m.hireOf(hire, 4));
        int missing = random.nextInt(8) > 0 ? tails & to(63) : from(0, 63);
        due("back", x.back(hire, missing), m.back(hire, missing), hire, missing);
    }

    private void pass() {
        int hours = style < 4 ? from(1, 3) : random.nextInt(3) > 0 ? from(1, 12) : from(1, 99);
        due("pass", x.pass(hours), m.pass(hours), hours);
    }

    private void set() {
        int which = from(0, 4);
        int value;
        switch (which) {
            case 0: value = from(5, 13); break;
            case 1: value = from(20, random.nextBoolean() ? 200 : 999); break;
            case 4: value = from(0, random.nextBoolean() ? 5 : 50); break;
            default: value = from(0, random.nextBoolean() ? 4 : 99); break;
        }
        due("set", x.set(which, value), m.set(which, value), which, value);
    }

    private void text() {
        due("clearText", x.clearText(), m.clearText());
        StringBuilder text = new StringBuilder();
        for (int parts = 1 + to(3); parts > 0; parts--) {
            if (random.nextInt(3) > 0) {
                text.append('w').append(from(0, 12)).append('x').append(from(1, 20));
            } else {
                text.append('k').append(from(0, 6)).append('-').append(from(5, 12)).append('*')
                        .append(from(1, 9)).append('$').append(from(1, 99));
            }
            text.append(parts > 1 ? ";" : "");
        }
        if (random.nextInt(4) == 0) {
            text.setCharAt(random.nextInt(text.length()), ";w0k9x1-*$2 /:".charAt(to(13)));
        }
        if (random.nextInt(8) == 0) {
            text.setLength(random.nextInt(text.length()));
        }
        for (int i = 0; i < text.length(); i++) {
            due("type", x.type(text.charAt(i)), m.type(text.charAt(i)), text.charAt(i));
            due("fault, behind " + text.substring(0, i + 1), x.fault(), m.fault());
        }
        due("tellAll, " + text, x.tellAll(), m.tellAll());
    }

    private void ask() {
        int a = from(0, Math.max(0, m.count(1)));
        int b = from(1, 12);
        int metres = from(1, 60);
        int hour = from(0, 999);
        int hire = anyHire();
        due("next", x.next(a, b), m.next(a, b), a, b);
        due("longest", x.longest(a, metres), m.longest(a, metres), a, metres);
        due("snapsIn", x.snapsIn(hire), m.snapsIn(hire), hire);
        due("flyable", x.flyable(hour), m.flyable(hour), hour);
        due("flyable", x.flyable(m.count(0)), m.flyable(m.count(0)), m.count(0));
        int hours = from(1, random.nextBoolean() ? 12 : 99);
        for (int what = -1; what < 6; what++) {
            due("ifPassed", x.ifPassed(hours, what), m.ifPassed(hours, what), hours, what);
        }
        due("dearest", x.dearest(metres), m.dearest(metres), metres);
        due("windOf", x.windOf(hour), m.windOf(hour), hour);
        for (int what = -1; what < 24; what++) {
            due("count", x.count(what), m.count(what), what);
        }
        askRows(from(0, 15), hire, from(-1, 8));
        c.due("perHour()", x.perHour(), m.perHour());
    }

    private void askRows(int row, int hire, int what) {
        due("kiteOf", x.kiteOf(row, what), m.kiteOf(row, what), row, what);
        due("spoolOf", x.spoolOf(row, what), m.spoolOf(row, what), row, what);
        due("tailsOf", x.tailsOf(row, what), m.tailsOf(row, what), row, what);
        due("hireOf", x.hireOf(hire, what), m.hireOf(hire, what), hire, what);
        due("ended", x.ended(row, what), m.ended(row, what), row, what);
    }

    private void lookAtAll() {
        for (int what = -1; what < 9; what++) {
            for (int row = -1; row < 17; row++) {
                askRows(row, row, what);
            }
        }
        for (int hire = 0; hire < m.count(6); hire++) {
            due("hireOf", x.hireOf(hire, 3), m.hireOf(hire, 3), hire, 3);
        }
        for (int hour = -1; hour < 1001; hour++) {
            due("windOf", x.windOf(hour), m.windOf(hour), hour);
        }
    }
}
