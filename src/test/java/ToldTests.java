/** Promises 18 to 25: what is told. */
final class ToldTests {
    private static final int MIN = Integer.MIN_VALUE;
    private static final int MAX = Integer.MAX_VALUE;

    private final Checks c;

    ToldTests(Checks checks) {
        c = checks;
    }

    void run() {
        c.test("promise 18: kiteOf", this::kiteOf);
        c.test("promise 19: spoolOf", this::spoolOf);
        c.test("promise 20: tailsOf", this::tailsOf);
        c.test("promise 21: hireOf", this::hireOf);
        c.test("promise 22: ended", this::ended);
        c.test("promise 22: ended, wrong values", this::endedWrong);
        c.test("promise 23: windOf", this::windOf);
        c.test("promise 24: count", this::count);
        c.test("promise 24: count, the red flag", this::countFlag);
        c.test("promise 25: perHour", this::perHour);
    }

    /** Kites 0 (in), 1 (out with hire 2) and 2 (lost); hire 0 came back, hire 1 snapped. */
    private static KiteHire mixed() {
        KiteHire x = new KiteHire();
        x.kite(0, 12, 1, 7);
        x.kite(1, 11, 2, 8);
        x.kite(2, 10, 9, 9);
        x.spool(40);
        x.spool(60);
        x.hire(0, 20, 1, 1);
        x.hire(2, 30, 12, 18);
        x.pass(4);
        x.hire(1, 26, 5, 33);
        x.pass(2);
        return x;
    }

    private void kiteOf() {
        KiteHire x = mixed();
        int[][] due = {{0, 0, 12, 1, 7, 1, 1, -5}, {1, 1, 11, 2, 8, 2, 1, 2}, {2, 2, 10, 9, 9, 4, 1, -5}};
        for (int kite = 0; kite < 3; kite++) {
            for (int what = 0; what < 8; what++) {
                c.due("kiteOf(" + kite + ", " + what + ")", x.kiteOf(kite, what), due[kite][what]);
            }
        }
        for (int kite : new int[] {-1, 3, 15, 16, MIN, MAX}) {
            c.due("kiteOf(" + kite + ", 0)", x.kiteOf(kite, 0), -1);
            c.due("kiteOf(" + kite + ", 8)", x.kiteOf(kite, 8), -1);
        }
        for (int what : new int[] {-1, 8, 9, MIN, MAX}) {
            c.due("kiteOf(0, " + what + ")", x.kiteOf(0, what), -2);
        }
    }

    private void spoolOf() {
        KiteHire x = mixed();
        int[][] due = {{40, 20, 2, 0}, {30, 0, -5, 30}};
        for (int spool = 0; spool < 2; spool++) {
            for (int what = 0; what < 4; what++) {
                c.due("spoolOf(" + spool + ", " + what + ")", x.spoolOf(spool, what), due[spool][what]);
            }
        }
        for (int spool : new int[] {-1, 2, 9, 10, MIN, MAX}) {
            c.due("spoolOf(" + spool + ", 0)", x.spoolOf(spool, 0), -1);
            c.due("spoolOf(" + spool + ", 4)", x.spoolOf(spool, 4), -1);
        }
        for (int what : new int[] {-1, 4, 5, MIN, MAX}) {
            c.due("spoolOf(0, " + what + ")", x.spoolOf(0, what), -2);
        }
    }

    private void tailsOf() {
        KiteHire x = mixed();
        int[][] due = {{4, 1, 0}, {4, 0, 1}, {5, 0, 0}, {5, 0, 0}, {4, 0, 1}, {4, 1, 0}};
        for (int colour = 0; colour < 6; colour++) {
            for (int what = 0; what < 3; what++) {
                c.due("tailsOf(" + colour + ", " + what + ")", x.tailsOf(colour, what),
                        due[colour][what]);
            }
        }
        for (int colour : new int[] {-1, 6, MIN, MAX}) {
            c.due("tailsOf(" + colour + ", 0)", x.tailsOf(colour, 0), -1);
            c.due("tailsOf(" + colour + ", 3)", x.tailsOf(colour, 3), -1);
        }
        for (int what : new int[] {-1, 3, 4, MIN, MAX}) {
            c.due("tailsOf(0, " + what + ")", x.tailsOf(0, what), -2);
        }
    }

    private void hireOf() {
        KiteHire x = mixed();
        int[] due = {1, 0, 26, 3, 33, 40};
        for (int what = 0; what < 6; what++) {
            c.due("hireOf(2, " + what + ")", x.hireOf(2, what), due[what]);
        }
        for (int hire : new int[] {0, 1, 3, -1, -5, 200, MIN, MAX}) {
            c.due("hireOf(" + hire + ", 0)", x.hireOf(hire, 0), -1);
            c.due("hireOf(" + hire + ", 6)", x.hireOf(hire, 6), -1);
        }
        for (int what : new int[] {-1, 6, 7, MIN, MAX}) {
            c.due("hireOf(2, " + what + ")", x.hireOf(2, what), -2);
        }
        x.wind(6, 7, 0);
        x.pass(2);
        c.due("hireOf(2, 5), two hours paid back", x.hireOf(2, 5), 24);
        c.due("hireOf(2, 3)", x.hireOf(2, 3), 1);
    }

    private void ended() {
        KiteHire x = mixed();
        int[][] due = {{1, 2, 3, 1000 + 108 + 15 + 6}, {0, 0, 0, 1007}};
        for (int ago = 0; ago < 2; ago++) {
            for (int what = 0; what < 4; what++) {
                c.due("ended(" + ago + ", " + what + ")", x.ended(ago, what), due[ago][what]);
            }
        }
        c.due("ended(2, 0)", x.ended(2, 0), -5);
        c.due("ended(7, 3)", x.ended(7, 3), -5);
        for (int hire = 3; hire < 14; hire++) {
            x.hire(0, 5, 2, 0);
            x.pass(1);
            x.back(hire, 0);
        }
        for (int ago = 0; ago < 8; ago++) {
            c.due("ended(" + ago + ", 0)", x.ended(ago, 0), 13 - ago);
            c.due("ended(" + ago + ", 1)", x.ended(ago, 1), 0);
            c.due("ended(" + ago + ", 2)", x.ended(ago, 2), 17 - ago);
            c.due("ended(" + ago + ", 3)", x.ended(ago, 3), 1011);
        }
    }

    private void endedWrong() {
        KiteHire x = mixed();
        for (int ago : new int[] {-1, 8, 9, MIN, MAX}) {
            c.due("ended(" + ago + ", 0)", x.ended(ago, 0), -2);
        }
        for (int what : new int[] {-1, 4, MIN, MAX}) {
            c.due("ended(0, " + what + ")", x.ended(0, what), -2);
            c.due("ended(7, " + what + ")", x.ended(7, what), -2);
        }
        KiteHire y = Looks.ready();
        c.due("ended(0, 0), none", y.ended(0, 0), -5);
        c.due("ended(8, 0), none", y.ended(8, 0), -2);
        y.hire(0, 5, 1, 0);
        c.due("ended(0, 0), out", y.ended(0, 0), -5);
        y.set(0, 1);
        y.pass(1);
        c.due("ended(0, 1), called down", y.ended(0, 1), 1);
        c.due("ended(0, 3), all given back", y.ended(0, 3), 1000);
    }

    private void windOf() {
        KiteHire x = new KiteHire();
        x.wind(999, 999, 12);
        x.wind(0, 0, 0);
        x.pass(5);
        c.due("windOf(0), gone by", x.windOf(0), 0);
        c.due("windOf(998)", x.windOf(998), 4);
        c.due("windOf(999)", x.windOf(999), 12);
        for (int hour : new int[] {-1, 1000, 1001, MIN, MAX}) {
            c.due("windOf(" + hour + ")", x.windOf(hour), -1);
        }
    }

    private void count() {
        KiteHire x = mixed();
        x.set(0, 9);
        x.set(1, 121);
        x.set(2, 16);
        x.set(3, 4);
        x.set(4, 6);
        x.kite(1, 1, 1, 1);
        x.undo();
        x.type('w');
        int[] due = {6, 3, 1, 1, 1, 2, 3, 1, 1, 0, 1, 7 + 108 + 21 + 40, 70, 30, 7, 0, 3, 1, 9, 121, 16,
            4, 6};
        for (int what = 0; what < due.length; what++) {
            c.due("count(" + what + ")", x.count(what), due[what]);
        }
        x.wind(6, 6, 12);
        x.pass(1);
        c.due("count(9)", x.count(9), 1);
        c.due("count(11), three hours given back", x.count(11), 7 + 108 + 21 + 40 - 24);
        for (int what : new int[] {-1, 23, 24, MIN, MAX}) {
            c.due("count(" + what + ")", x.count(what), -2);
        }
    }

    private void countFlag() {
        KiteHire x = new KiteHire();
        c.due("count(15)", x.count(15), 0);
        x.set(0, 5);
        c.due("count(15)", x.count(15), 0);
        x.set(0, 4);
        c.due("count(15)", x.count(15), 1);
        x.wind(1, 1, 3);
        x.pass(1);
        c.due("count(15)", x.count(15), 0);
        x.set(0, 1);
        c.due("count(15)", x.count(15), 1);
        Looks.pass(x, 998);
        c.due("count(15) in hour 999", x.count(15), 1);
        x.pass(1);
        c.due("count(15) behind hour 999", x.count(15), 0);
    }

    private void perHour() {
        KiteHire x = Looks.ready();
        c.due("perHour()", x.perHour(), 0.0);
        x.hire(0, 5, 12, 0);
        c.due("perHour(), none flown", x.perHour(), 0.0);
        x.pass(1);
        c.due("perHour()", x.perHour(), 84.0);
        x.pass(4);
        c.due("perHour()", x.perHour(), 84.0 / 5.0);
        x.pass(4);
        x.back(0, 0);
        c.due("perHour()", x.perHour(), 74.0 / 9.0);
        KiteHire y = new KiteHire();
        y.kite(5, 5, 1, 9);
        y.spool(50);
        y.wind(0, 0, 5);
        y.hire(0, 5, 2, 1);
        y.pass(2);
        c.due("perHour(), the price of the calm hour is back", y.perHour(), 9.0);
    }
}
