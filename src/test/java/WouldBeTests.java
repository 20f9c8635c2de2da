/** Promises 26 to 32: what would be. */
final class WouldBeTests {
    private static final int MIN = Integer.MIN_VALUE;
    private static final int MAX = Integer.MAX_VALUE;

    private final Checks c;

    WouldBeTests(Checks checks) {
        c = checks;
    }

    void run() {
        c.test("promise 26: why", this::why);
        c.test("promise 27: next", this::next);
        c.test("promise 27: next, the last hours", this::nextAtTheEnd);
        c.test("promise 27: next, wrong values", this::nextWrong);
        c.test("promise 28: longest", this::longest);
        c.test("promise 28: longest, without tails", this::longestWithoutTails);
        c.test("promise 28: longest, refused", this::longestRefused);
        c.test("promise 29: snapsIn", this::snapsIn);
        c.test("promise 29: snapsIn, hours that are not flown", this::snapsInCalm);
        c.test("promise 29: snapsIn, up to the hour 999", this::snapsInAtTheEnd);
        c.test("promise 30: flyable", this::flyable);
        c.test("promise 31: ifPassed", this::ifPassed);
        c.test("promise 31: ifPassed, the last hours", this::ifPassedAtTheEnd);
        c.test("promise 31: ifPassed, wrong values", this::ifPassedWrong);
        c.test("promise 32: dearest", this::dearest);
        c.test("promise 32: dearest, none", this::dearestNone);
    }

    private void why() {
        KiteHire x = Looks.ready();
        c.due("why(0, 95, 12, 63)", x.why(0, 95, 12, 63), 0);
        c.due("why(0, 96, 12, 63)", x.why(0, 96, 12, 63), 4);
        for (int kite : new int[] {-1, 1, 16, MIN, MAX}) {
            c.due("why(" + kite + ", 1, 1, 0)", x.why(kite, 1, 1, 0), -1);
            c.due("why(" + kite + ", 0, 0, 64)", x.why(kite, 0, 0, 64), -1);
        }
        x.hire(0, 10, 1, 0);
        c.due("why(0, 1, 1, 0)", x.why(0, 1, 1, 0), 1);
        c.due("why(0, 0, 1, 0)", x.why(0, 0, 1, 0), -2);
        c.due("hires", x.count(6), 1);
    }

    private void next() {
        KiteHire x = new KiteHire();
        x.kite(3, 6, 9, 1);
        c.due("next(0, 12)", x.next(0, 12), 0);
        x.wind(0, 4, 2);
        x.wind(6, 6, 7);
        x.wind(8, 8, 2);
        x.wind(12, 12, 9);
        x.wind(20, 20, 7);
        c.due("next(0, 1)", x.next(0, 1), 5);
        c.due("next(0, 2)", x.next(0, 2), 7);
        c.due("next(0, 5)", x.next(0, 5), 7);
        c.due("next(0, 6)", x.next(0, 6), 13);
        c.due("next(0, 7)", x.next(0, 7), 13);
        c.due("next(0, 8)", x.next(0, 8), 21);
        x.set(0, 4);
        c.due("next(0, 1), the flag", x.next(0, 1), -5);
        x.wind(30, 33, 3);
        c.due("next(0, 4)", x.next(0, 4), 30);
        c.due("next(0, 5)", x.next(0, 5), -5);
        x.set(0, 13);
        x.pass(6);
        c.due("next(0, 1), from now on", x.next(0, 1), 7);
        x.spool(50);
        x.pass(1);
        x.hire(0, 5, 5, 0);
        c.due("next(0, 5), though it is out", x.next(0, 5), 7);
        x.pass(1);
        c.due("next(0, 4)", x.next(0, 4), 13);
        c.due("next(0, 1)", x.next(0, 1), 9);
    }

    private void nextAtTheEnd() {
        KiteHire x = new KiteHire();
        x.kite(5, 12, 1, 1);
        x.wind(995, 999, 5);
        c.due("next(0, 5)", x.next(0, 5), 995);
        c.due("next(0, 6)", x.next(0, 6), -5);
        x.wind(999, 999, 8);
        c.due("next(0, 5)", x.next(0, 5), -5);
        c.due("next(0, 4)", x.next(0, 4), 995);
        x.wind(0, 998, 4);
        x.wind(999, 999, 5);
        c.due("next(0, 1)", x.next(0, 1), 999);
        Looks.pass(x, 999);
        c.due("next(0, 1)", x.next(0, 1), 999);
        x.pass(1);
        c.due("next(0, 1)", x.next(0, 1), -5);
    }

    private void nextWrong() {
        KiteHire x = Looks.ready();
        for (int kite : new int[] {-1, 1, 16, MIN, MAX}) {
            c.due("next(" + kite + ", 1)", x.next(kite, 1), -1);
            c.due("next(" + kite + ", 0)", x.next(kite, 0), -1);
        }
        for (int hours : new int[] {0, 13, -1, MIN, MAX}) {
            c.due("next(0, " + hours + ")", x.next(0, hours), -2);
        }
    }

    private void longest() {
        KiteHire x = Looks.ready();
        c.due("longest(0, 95)", x.longest(0, 95), 12);
        x.wind(11, 11, 8);
        c.due("longest(0, 95)", x.longest(0, 95), 11);
        x.wind(1, 1, 12);
        c.due("longest(0, 95)", x.longest(0, 95), 1);
        x.set(0, 13);
        c.due("longest(0, 95)", x.longest(0, 95), 12);
        x.wind(0, 5, 0);
        c.due("longest(0, 95)", x.longest(0, 95), 12);
        Looks.pass(x, 993);
        c.due("longest(0, 95)", x.longest(0, 95), 7);
        x.pass(6);
        c.due("longest(0, 95)", x.longest(0, 95), 1);
        x.pass(1);
        c.due("longest(0, 95)", x.longest(0, 95), -5);
    }

    private void longestWithoutTails() {
        KiteHire x = Looks.ready();
        for (int hire = 0; hire < 5; hire++) {
            x.hire(0, 10, 1, 63);
            x.back(hire, 63);
        }
        c.due("why(0, 10, 1, 1)", x.why(0, 10, 1, 1), 5);
        c.due("longest(0, 10)", x.longest(0, 10), 12);
        c.due("dearest(10)", x.dearest(10), 0);
    }

    private void longestRefused() {
        KiteHire x = Looks.ready();
        x.kite(5, 12, 1, 1);
        x.kite(0, 3, 1, 1);
        c.due("longest(0, 96), no spool", x.longest(0, 96), -5);
        c.due("longest(1, 1), too calm", x.longest(1, 1), -5);
        c.due("longest(2, 1), too windy", x.longest(2, 1), -5);
        for (int kite : new int[] {-1, 3, 16, MIN, MAX}) {
            c.due("longest(" + kite + ", 1)", x.longest(kite, 1), -1);
            c.due("longest(" + kite + ", 0)", x.longest(kite, 0), -1);
        }
        for (int metres : new int[] {0, -1, 301, MIN, MAX}) {
            c.due("longest(0, " + metres + ")", x.longest(0, metres), -2);
        }
        x.hire(0, 5, 1, 0);
        c.due("longest(0, 1), out", x.longest(0, 1), -5);
    }

    private void snapsIn() {
        KiteHire x = new KiteHire();
        x.kite(0, 12, 3, 1);
        x.spool(50);
        c.due("snapsIn(0)", x.snapsIn(0), -1);
        x.hire(0, 5, 2, 0);
        c.due("snapsIn(0), longer than the hire", x.snapsIn(0), 10);
        x.set(1, 121);
        c.due("snapsIn(0)", x.snapsIn(0), 11);
        x.pass(1);
        c.due("snapsIn(0)", x.snapsIn(0), 10);
        x.set(1, 24);
        c.due("snapsIn(0)", x.snapsIn(0), 1);
        x.wind(1, 1, 3);
        c.due("snapsIn(0)", x.snapsIn(0), 2);
        for (int hire : new int[] {-1, -5, 1, 200, MIN, MAX}) {
            c.due("snapsIn(" + hire + ")", x.snapsIn(hire), -1);
        }
        c.due("wear stays", x.spoolOf(0, 1), 12);
        x.pass(1);
        c.due("snapsIn(0), ended", x.snapsIn(0), -1);
    }

    private void snapsInCalm() {
        KiteHire x = new KiteHire();
        x.kite(2, 6, 5, 1);
        x.spool(50);
        x.set(1, 60);
        x.hire(0, 5, 12, 0);
        c.due("snapsIn(0)", x.snapsIn(0), 3);
        x.wind(1, 1, 1);
        c.due("snapsIn(0), too little wind", x.snapsIn(0), 4);
        x.wind(2, 2, 7);
        c.due("snapsIn(0), too much wind", x.snapsIn(0), 5);
        x.wind(3, 3, 6);
        c.due("snapsIn(0)", x.snapsIn(0), 5);
        x.set(0, 6);
        c.due("snapsIn(0), the red flag", x.snapsIn(0), 6);
        x.wind(4, 4, 2);
        c.due("snapsIn(0)", x.snapsIn(0), 7);
        x.set(0, 1);
        c.due("snapsIn(0), always the red flag", x.snapsIn(0), -5);
    }

    private void snapsInAtTheEnd() {
        KiteHire x = Looks.ready();
        x.wind(0, 999, 1);
        x.set(1, 999);
        x.hire(0, 5, 12, 0);
        c.due("snapsIn(0)", x.snapsIn(0), 999);
        x.wind(7, 7, 0);
        c.due("snapsIn(0)", x.snapsIn(0), 1000);
        x.wind(8, 8, 0);
        c.due("snapsIn(0)", x.snapsIn(0), -5);
        KiteHire y = Looks.ready();
        Looks.pass(y, 998);
        y.hire(0, 5, 2, 0);
        y.wind(998, 998, 0);
        y.set(1, 20);
        c.due("snapsIn(0)", y.snapsIn(0), -5);
        y.set(0, 13);
        y.wind(999, 999, 12);
        c.due("snapsIn(0)", y.snapsIn(0), -5);
        y.wind(998, 998, 8);
        c.due("snapsIn(0)", y.snapsIn(0), 2);
    }

    private void flyable() {
        KiteHire x = new KiteHire();
        c.due("flyable(0)", x.flyable(0), 0);
        for (int kite = 0; kite < 16; kite++) {
            x.kite(Math.min(kite, 12), Math.min(kite + 2, 12), 9, 1);
        }
        x.wind(1, 1, 0);
        x.wind(2, 2, 7);
        x.wind(3, 3, 8);
        x.wind(4, 4, 12);
        c.due("flyable(0)", x.flyable(0), 1 << 2 | 1 << 3 | 1 << 4);
        c.due("flyable(1)", x.flyable(1), 1);
        c.due("flyable(2)", x.flyable(2), 1 << 5 | 1 << 6 | 1 << 7);
        c.due("flyable(3)", x.flyable(3), 0);
        x.set(0, 13);
        c.due("flyable(3)", x.flyable(3), 1 << 6 | 1 << 7 | 1 << 8);
        c.due("flyable(4)", x.flyable(4), 63 << 10);
        c.due("flyable(999)", x.flyable(999), 1 << 2 | 1 << 3 | 1 << 4);
        for (int hour : new int[] {-1, 1000, MIN, MAX}) {
            c.due("flyable(" + hour + ")", x.flyable(hour), -1);
        }
        x.spool(50);
        x.hire(3, 5, 1, 0);
        c.due("flyable(0), one is out", x.flyable(0), 1 << 2 | 1 << 4);
        x.set(1, 20);
        x.pass(1);
        c.due("flyable(0), one is lost", x.flyable(0), 1 << 2 | 1 << 4);
    }

    private void ifPassed() {
        KiteHire x = new KiteHire();
        x.kite(0, 6, 1, 5);
        x.kite(0, 12, 9, 3);
        x.kite(5, 12, 1, 8);
        x.kite(0, 12, 1, 2);
        for (int spool = 0; spool < 4; spool++) {
            x.spool(60);
        }
        x.wind(0, 0, 5);
        x.hire(0, 10, 6, 1);
        x.hire(1, 10, 12, 6);
        x.hire(2, 10, 5, 1);
        x.hire(3, 10, 1, 1);
        x.wind(4, 4, 7);
        String before = Looks.of(x);
        int history = x.count(16);
        int[][] due = {{1, 0, 0, 4, 100000}, {1, 0, 0, 6, 99992}, {1, 0, 0, 8, 99984},
            {1, 0, 1, 10, 99976 + 21}, {2, 1, 1, 11, 99976 + 21 - 10}, {2, 1, 1, 11, 99987}};
        int[] hours = {1, 2, 3, 4, 5, 99};
        for (int i = 0; i < hours.length; i++) {
            for (int what = 0; what < 5; what++) {
                c.due("ifPassed(" + hours[i] + ", " + what + ")", x.ifPassed(hours[i], what),
                        due[i][what]);
            }
        }
        c.due("look", Looks.of(x), before);
        c.due("history", x.count(16), history);
        x.pass(5);
        c.due("came back", x.count(8), 2);
        c.due("called down", x.count(9), 1);
        c.due("snapped", x.count(10), 1);
        c.due("hours flown", x.count(14), 11);
        c.due("coins", x.count(11), 30 + 36 + 40 + 2 - 13);
        for (int what = 0; what < 5; what++) {
            c.due("ifPassed(99, " + what + ") then", x.ifPassed(99, what), what == 4 ? 100000 : 0);
        }
    }

    private void ifPassedAtTheEnd() {
        KiteHire x = Looks.ready();
        Looks.pass(x, 995);
        x.hire(0, 5, 5, 0);
        int[] due = {1, 0, 0, 5, 100000};
        for (int what = 0; what < 5; what++) {
            c.due("ifPassed(99, " + what + ")", x.ifPassed(99, what), due[what]);
            c.due("ifPassed(5, " + what + ")", x.ifPassed(5, what), due[what]);
        }
        c.due("ifPassed(4, 0)", x.ifPassed(4, 0), 0);
        c.due("ifPassed(4, 3)", x.ifPassed(4, 3), 4);
        x.pass(5);
        for (int what = 0; what < 5; what++) {
            c.due("ifPassed(1, " + what + ") in hour 1000", x.ifPassed(1, what), what == 4 ? 100000 : 0);
        }
    }

    private void ifPassedWrong() {
        KiteHire x = Looks.ready();
        for (int hours : new int[] {0, -1, 100, MIN, MAX}) {
            c.due("ifPassed(" + hours + ", 0)", x.ifPassed(hours, 0), -2);
        }
        for (int what : new int[] {-1, 5, MIN, MAX}) {
            c.due("ifPassed(1, " + what + ")", x.ifPassed(1, what), -2);
        }
    }

    private void dearest() {
        KiteHire x = new KiteHire();
        x.spool(60);
        x.kite(0, 6, 1, 20);
        c.due("dearest(55)", x.dearest(55), 0);
        x.kite(0, 7, 1, 20);
        c.due("dearest(55), the lowest of the same", x.dearest(55), 0);
        x.kite(0, 4, 1, 21);
        c.due("dearest(55)", x.dearest(55), 2);
        x.kite(5, 12, 1, 99);
        c.due("dearest(55), too calm for kite 3", x.dearest(55), 2);
        x.wind(8, 8, 6);
        c.due("dearest(55), 8 hours of kite 2", x.dearest(55), 0);
        x.wind(8, 8, 7);
        c.due("dearest(55), 8 hours of kites 0 and 2", x.dearest(55), 1);
        x.wind(8, 8, 8);
        c.due("dearest(55), 8 hours of each", x.dearest(55), 2);
        x.spool(61);
        x.hire(2, 56, 3, 0);
        c.due("dearest(55), kite 2 is out", x.dearest(55), 0);
        c.due("dearest(56), no spool", x.dearest(56), -5);
        KiteHire y = new KiteHire();
        y.spool(60);
        y.kite(0, 12, 1, 10);
        y.kite(0, 4, 1, 99);
        y.wind(1, 1, 5);
        c.due("dearest(1), one hour of kite 1", y.dearest(1), 0);
        y.wind(2, 2, 8);
        c.due("dearest(1), two hours of kite 0", y.dearest(1), 1);
    }

    private void dearestNone() {
        KiteHire x = new KiteHire();
        c.due("dearest(1), no kites", x.dearest(1), -5);
        x.kite(0, 12, 1, 5);
        c.due("dearest(1), no spool", x.dearest(1), -5);
        x.spool(300);
        c.due("dearest(295)", x.dearest(295), 0);
        c.due("dearest(296)", x.dearest(296), -5);
        c.due("dearest(300)", x.dearest(300), -5);
        for (int metres : new int[] {0, -1, 301, MIN, MAX}) {
            c.due("dearest(" + metres + ")", x.dearest(metres), -2);
        }
        Looks.pass(x, 1000);
        c.due("dearest(1), in hour 1000", x.dearest(1), -5);
    }
}
