/** Promises 1 to 5: a new object, wind, kites, spools and tails. */
final class GroundTests {
    private static final int MIN = Integer.MIN_VALUE;
    private static final int MAX = Integer.MAX_VALUE;

    private final Checks c;

    GroundTests(Checks checks) {
        c = checks;
    }

    void run() {
        c.test("promise 1: a new object", this::newObject);
        c.test("promise 1: objects share nothing", this::objectsApart);
        c.test("promise 2: wind", this::wind);
        c.test("promise 2: wind, wrong values", this::windWrong);
        c.test("promise 2: wind, from the hour of now on", this::windFromNow);
        c.test("promise 3: kite", this::kite);
        c.test("promise 3: kite, wrong values and no room", this::kiteWrong);
        c.test("promise 4: spool", this::spool);
        c.test("promise 5: tails", this::tails);
        c.test("promise 5: tails, at most 99 in, out and lost", this::tailsFull);
    }

    private void newObject() {
        KiteHire x = new KiteHire();
        int[] first = {0, 0, 0, 0, 0, 0, 0, 0, 0, 0, 0, 0, 0, 0, 0, 0, 0, 0, 8, 120, 15, 3, 5};
        for (int what = 0; what < first.length; what++) {
            c.due("count(" + what + ")", x.count(what), first[what]);
        }
        for (int hour = 0; hour < 1000; hour++) {
            c.due("windOf(" + hour + ")", x.windOf(hour), 4);
        }
        for (int colour = 0; colour < 6; colour++) {
            c.due("tails in", x.tailsOf(colour, 0), 5);
            c.due("tails out", x.tailsOf(colour, 1), 0);
            c.due("tails lost", x.tailsOf(colour, 2), 0);
        }
        c.due("kiteOf(0, 0)", x.kiteOf(0, 0), -1);
        c.due("spoolOf(0, 0)", x.spoolOf(0, 0), -1);
        c.due("hireOf(0, 0)", x.hireOf(0, 0), -1);
        c.due("ended(0, 0)", x.ended(0, 0), -5);
        c.due("perHour()", x.perHour(), 0.0);
        c.due("fault()", x.fault(), 0);
        c.due("undo()", x.undo(), -5);
        c.due("restore()", x.restore(), -5);
    }

    private void objectsApart() {
        KiteHire x = Looks.ready();
        KiteHire y = new KiteHire();
        String before = Looks.of(y);
        x.hire(0, 10, 3, 63);
        x.wind(0, 999, 2);
        x.set(0, 3);
        x.type('w');
        x.keep();
        c.due("look of another", Looks.of(y), before);
        c.due("text of another", y.count(17), 0);
        c.due("restore() of another", y.restore(), -5);
    }

    private void wind() {
        KiteHire x = new KiteHire();
        c.due("wind(2, 5, 9)", x.wind(2, 5, 9), 4);
        c.due("windOf(1)", x.windOf(1), 4);
        c.due("windOf(2)", x.windOf(2), 9);
        c.due("windOf(5)", x.windOf(5), 9);
        c.due("windOf(6)", x.windOf(6), 4);
        c.due("wind(2, 5, 9) again", x.wind(2, 5, 9), -5);
        c.due("history", x.count(16), 1);
        c.due("wind(0, 7, 9)", x.wind(0, 7, 9), 4);
        c.due("wind(0, 0, 12)", x.wind(0, 0, 12), 1);
        c.due("wind(0, 0, 0)", x.wind(0, 0, 0), 1);
        c.due("wind(999, 999, 1)", x.wind(999, 999, 1), 1);
        c.due("wind(0, 999, 4)", x.wind(0, 999, 4), 9);
        c.due("wind(0, 999, 3)", x.wind(0, 999, 3), 1000);
        c.due("windOf(999)", x.windOf(999), 3);
    }

    private void windWrong() {
        KiteHire x = new KiteHire();
        String before = Looks.of(x);
        int[][] calls = {{-1, 3, 2}, {3, 2, 2}, {0, 1000, 2}, {1000, 1000, 2}, {0, 3, -1},
            {0, 3, 13}, {MIN, 3, 2}, {0, MAX, 2}, {0, MIN, 2}, {MAX, MAX, 2}, {0, 0, MAX}, {0, 0, MIN}};
        for (int[] a : calls) {
            c.due("wind(" + a[0] + ", " + a[1] + ", " + a[2] + ")", x.wind(a[0], a[1], a[2]), -2);
        }
        c.due("look", Looks.of(x), before);
        c.due("history", x.count(16), 0);
    }

    private void windFromNow() {
        KiteHire x = new KiteHire();
        x.pass(10);
        c.due("wind(9, 20, 5)", x.wind(9, 20, 5), -2);
        c.due("wind(10, 10, 5)", x.wind(10, 10, 5), 1);
        c.due("windOf(9)", x.windOf(9), 4);
        Looks.pass(x, 989);
        c.due("wind(999, 999, 5)", x.wind(999, 999, 5), 1);
        x.pass(1);
        c.due("hour", x.count(0), 1000);
        c.due("wind(999, 999, 6)", x.wind(999, 999, 6), -2);
        c.due("wind(1000, 1000, 6)", x.wind(1000, 1000, 6), -2);
    }

    private void kite() {
        KiteHire x = new KiteHire();
        c.due("kite(0, 0, 1, 1)", x.kite(0, 0, 1, 1), 0);
        c.due("kite(12, 12, 9, 99)", x.kite(12, 12, 9, 99), 1);
        c.due("kite(3, 7, 4, 20)", x.kite(3, 7, 4, 20), 2);
        int[] due = {0, 3, 7, 4, 20, 0, 0, -5};
        for (int what = 0; what < 8; what++) {
            c.due("kiteOf(2, " + what + ")", x.kiteOf(2, what), due[what]);
        }
        c.due("kiteOf(1, 1)", x.kiteOf(1, 1), 12);
        c.due("kites", x.count(1), 3);
        c.due("kites in", x.count(2), 3);
        c.due("history", x.count(16), 3);
    }

    private void kiteWrong() {
        KiteHire x = new KiteHire();
        for (int round = 0; round < 2; round++) {
            int[][] calls = {{-1, 5, 1, 1}, {13, 13, 1, 1}, {5, 4, 1, 1}, {0, 13, 1, 1}, {0, 5, 0, 1},
                {0, 5, 10, 1}, {0, 5, 1, 0}, {0, 5, 1, 100}, {MIN, 5, 1, 1}, {0, MAX, 1, 1},
                {0, 5, MIN, 1}, {0, 5, 1, MAX}};
            for (int[] a : calls) {
                c.due("kite(" + a[0] + ", " + a[1] + ", " + a[2] + ", " + a[3] + ")",
                        x.kite(a[0], a[1], a[2], a[3]), -2);
            }
            if (round == 0) {
                c.due("kites", x.count(1), 0);
                for (int kite = 0; kite < 16; kite++) {
                    c.due("kite", x.kite(1, 2, 3, 4), kite);
                }
                c.due("kite 16", x.kite(1, 2, 3, 4), -3);
            }
        }
        c.due("kites", x.count(1), 16);
        c.due("kiteOf(15, 4)", x.kiteOf(15, 4), 4);
    }

    private void spool() {
        KiteHire x = new KiteHire();
        for (int metres : new int[] {0, -1, 301, MIN, MAX}) {
            c.due("spool(" + metres + ")", x.spool(metres), -2);
        }
        c.due("history", x.count(16), 0);
        for (int spool = 0; spool < 10; spool++) {
            c.due("spool", x.spool(spool == 0 ? 1 : 300), spool);
        }
        c.due("spool(300) 10", x.spool(300), -3);
        c.due("spool(301) 10", x.spool(301), -2);
        int[] due = {1, 0, -5, 0};
        for (int what = 0; what < 4; what++) {
            c.due("spoolOf(0, " + what + ")", x.spoolOf(0, what), due[what]);
        }
        c.due("spools", x.count(5), 10);
        c.due("metres", x.count(12), 2701);
    }

    private void tails() {
        KiteHire x = new KiteHire();
        c.due("tails(-1, 0)", x.tails(-1, 0), -1);
        c.due("tails(6, 1)", x.tails(6, 1), -1);
        c.due("tails(MAX, 1)", x.tails(MAX, 1), -1);
        c.due("tails(0, 0)", x.tails(0, 0), -2);
        c.due("tails(0, 21)", x.tails(0, 21), -2);
        c.due("tails(0, MIN)", x.tails(0, MIN), -2);
        c.due("tails(0, MAX)", x.tails(0, MAX), -2);
        c.due("history", x.count(16), 0);
        c.due("tails(0, 1)", x.tails(0, 1), 6);
        c.due("tails(5, 20)", x.tails(5, 20), 25);
        c.due("tailsOf(5, 0)", x.tailsOf(5, 0), 25);
        c.due("tailsOf(1, 0)", x.tailsOf(1, 0), 5);
        c.due("history", x.count(16), 2);
    }

    private void tailsFull() {
        KiteHire x = Looks.ready();
        x.kite(0, 12, 9, 1);
        x.spool(200);
        for (int i = 0; i < 4; i++) {
            x.tails(2, 20);
        }
        c.due("tailsOf(2, 0)", x.tailsOf(2, 0), 85);
        x.hire(0, 10, 2, 4);
        x.back(0, 4);
        x.hire(1, 10, 2, 4);
        c.due("in", x.tailsOf(2, 0), 83);
        c.due("out", x.tailsOf(2, 1), 1);
        c.due("lost", x.tailsOf(2, 2), 1);
        c.due("tails(2, 15)", x.tails(2, 15), -3);
        c.due("tails(2, 21)", x.tails(2, 21), -2);
        c.due("tails(2, 14)", x.tails(2, 14), 97);
        c.due("tails(2, 1)", x.tails(2, 1), -3);
        c.due("tails(3, 1)", x.tails(3, 1), 6);
        x.hire(0, 10, 2, 4);
        c.due("out", x.tailsOf(2, 1), 2);
        c.due("tails(2, 1), two out", x.tails(2, 1), -3);
        x.back(1, 4);
        x.back(2, 4);
        c.due("lost", x.tailsOf(2, 2), 3);
        c.due("tails(2, 1), three lost", x.tails(2, 1), -3);
        x.found(2);
        c.due("tails(2, 1), two lost", x.tails(2, 1), -3);
    }
}
