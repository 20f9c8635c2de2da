/** Promises 7 to 11: hires, their ends, tails that are found, hours that pass, settings. */
final class HireTests {
    private static final int MIN = Integer.MIN_VALUE;
    private static final int MAX = Integer.MAX_VALUE;

    private final Checks c;

    HireTests(Checks checks) {
        c = checks;
    }

    void run() {
        c.test("promise 7: hire", this::hire);
        c.test("promise 7: hire, wrong values", this::hireWrong);
        c.test("promise 7: the reasons of a refusal", this::reasons);
        c.test("promise 7: the order of the reasons", this::reasonsInOrder);
        c.test("promise 7: the spool that a hire takes", this::spoolTaken);
        c.test("promise 7: the spool that a hire takes, lost metres", this::spoolThatLost);
        c.test("promise 7: ten hires at once", this::tenAtOnce);
        c.test("promise 7: at most 200 hires", this::hiresFull);
        c.test("promise 7: reasons at the last hours", this::lastHours);
        c.test("promise 8: back", this::back);
        c.test("promise 8: back, wrong values", this::backWrong);
        c.test("promise 8: back, missing tails", this::backMissing);
        c.test("promise 9: found", this::found);
        c.test("promise 10: pass, wrong values", this::passWrong);
        c.test("promise 10: a hire comes back when its hours are over", this::comesBack);
        c.test("promise 10: a hire is called down by the wind", this::calledDown);
        c.test("promise 10: a hire is called down by the red flag", this::redFlag);
        c.test("promise 10: an hour without wind is paid back", this::calm);
        c.test("promise 10: a line wears and snaps", this::snaps);
        c.test("promise 10: a worn spool snaps without wind", this::snapsWithoutWind);
        c.test("promise 10: hires by numbers", this::byNumbers);
        c.test("promise 11: set", this::set);
        c.test("promise 11: set, ranges", this::setRanges);
    }

    private void hire() {
        KiteHire x = Looks.ready();
        c.due("hire(0, 95, 12, 63)", x.hire(0, 95, 12, 63), 0);
        int[] due = {0, 0, 95, 12, 63, 84};
        for (int what = 0; what < 6; what++) {
            c.due("hireOf(0, " + what + ")", x.hireOf(0, what), due[what]);
        }
        c.due("kite is out", x.kiteOf(0, 0), 1);
        c.due("kite's hires", x.kiteOf(0, 6), 1);
        c.due("kite's hire", x.kiteOf(0, 7), 0);
        c.due("spool's hire", x.spoolOf(0, 2), 0);
        for (int colour = 0; colour < 6; colour++) {
            c.due("tails in", x.tailsOf(colour, 0), 4);
            c.due("tails out", x.tailsOf(colour, 1), 1);
        }
        c.due("coins", x.count(11), 84);
        c.due("hires", x.count(6), 1);
        c.due("hires out", x.count(7), 1);
        c.due("kites out", x.count(3), 1);
        x.pass(12);
        c.due("hire(0, 1, 1, 0)", x.hire(0, 1, 1, 0), 1);
        c.due("kite's hires", x.kiteOf(0, 6), 2);
        c.due("kite's hire", x.kiteOf(0, 7), 1);
    }

    private void hireWrong() {
        KiteHire x = Looks.ready();
        String before = Looks.of(x);
        c.due("hire(1, 0, 0, 0)", x.hire(1, 0, 0, 0), -1);
        c.due("hire(-1, 1, 1, 0)", x.hire(-1, 1, 1, 0), -1);
        c.due("hire(16, 1, 1, 0)", x.hire(16, 1, 1, 0), -1);
        c.due("hire(MAX, 1, 1, 0)", x.hire(MAX, 1, 1, 0), -1);
        c.due("hire(MIN, 1, 1, 0)", x.hire(MIN, 1, 1, 0), -1);
        int[][] calls = {{0, 1, 0}, {301, 1, 0}, {1, 0, 0}, {1, 13, 0}, {1, 1, -1}, {1, 1, 64},
            {MIN, 1, 0}, {MAX, 1, 0}, {1, MIN, 0}, {1, MAX, 0}, {1, 1, MIN}, {1, 1, MAX}};
        for (int[] a : calls) {
            String call = "(0, " + a[0] + ", " + a[1] + ", " + a[2] + ")";
            c.due("hire" + call, x.hire(0, a[0], a[1], a[2]), -2);
            c.due("why" + call, x.why(0, a[0], a[1], a[2]), -2);
        }
        c.due("hire(0, 300, 12, 63)", x.hire(0, 300, 12, 63), -14);
        c.due("look", Looks.of(x), before);
        c.due("history", x.count(16), 2);
    }

    private void refused(KiteHire x, int[] hire, int reason) {
        String call = "(" + hire[0] + ", " + hire[1] + ", " + hire[2] + ", " + hire[3] + ")";
        c.due("why" + call, x.why(hire[0], hire[1], hire[2], hire[3]), reason);
        String before = Looks.of(x);
        int history = x.count(16);
        if (reason != 0) {
            c.due("hire" + call, x.hire(hire[0], hire[1], hire[2], hire[3]), -10 - reason);
            c.due("look after it", Looks.of(x), before);
            c.due("history after it", x.count(16), history);
        }
    }

    private static int[] a(int kite, int metres, int hours, int tails) {
        return new int[] {kite, metres, hours, tails};
    }

    private void reasons() {
        KiteHire x = new KiteHire();
        x.kite(3, 6, 1, 5);
        x.kite(0, 12, 1, 5);
        x.spool(50);
        x.spool(60);
        x.wind(3, 3, 7);
        x.wind(5, 5, 8);
        refused(x, a(0, 45, 3, 0), 0);
        refused(x, a(0, 45, 4, 0), 2);
        refused(x, a(1, 45, 5, 0), 0);
        refused(x, a(1, 45, 6, 0), 2);
        x.wind(0, 0, 2);
        refused(x, a(0, 45, 3, 0), 3);
        refused(x, a(1, 45, 3, 0), 0);
        x.wind(0, 0, 3);
        refused(x, a(0, 45, 3, 0), 0);
        x.wind(1, 2, 0);
        refused(x, a(0, 45, 3, 0), 0);
        x.wind(0, 0, 6);
        refused(x, a(0, 55, 3, 0), 0);
        refused(x, a(0, 56, 3, 0), 4);
        x.set(4, 4);
        refused(x, a(0, 56, 3, 0), 0);
        for (int i = 0; i < 5; i++) {
            x.hire(1, 10, 1, 16);
            x.back(i, 16);
        }
        refused(x, a(0, 45, 3, 16), 5);
        refused(x, a(0, 45, 3, 63), 5);
        refused(x, a(0, 45, 3, 47), 0);
        c.due("hire", x.hire(0, 45, 3, 0), 5);
        refused(x, a(0, 45, 3, 0), 1);
    }

    private void reasonsInOrder() {
        KiteHire x = new KiteHire();
        x.kite(5, 6, 9, 5);
        x.kite(0, 12, 9, 5);
        x.spool(20);
        Looks.pass(x, 990);
        x.wind(990, 990, 5);
        for (int i = 0; i < 5; i++) {
            x.hire(1, 1, 1, 1);
            x.back(i, 1);
        }
        x.wind(990, 990, 3);
        x.wind(999, 999, 9);
        refused(x, a(0, 100, 12, 1), 2);
        x.wind(999, 999, 8);
        refused(x, a(0, 100, 12, 1), 2);
        x.set(0, 9);
        refused(x, a(1, 15, 12, 0), 6);
        refused(x, a(1, 15, 12, 1), 5);
        refused(x, a(1, 16, 12, 1), 4);
        refused(x, a(0, 16, 9, 1), 3);
        refused(x, a(0, 16, 10, 1), 2);
        c.due("hire", x.hire(1, 15, 10, 0), 5);
        refused(x, a(1, 300, 12, 1), 1);
        refused(x, a(0, 1, 9, 0), 3);
        x.wind(990, 990, 6);
        refused(x, a(0, 1, 9, 0), 4);
    }

    private void spoolTaken() {
        KiteHire x = new KiteHire();
        for (int kite = 0; kite < 6; kite++) {
            x.kite(0, 12, 1, 1);
        }
        int[] metres = {90, 40, 30, 40, 40, 30};
        for (int spool = 0; spool < metres.length; spool++) {
            x.spool(metres[spool]);
        }
        c.due("hire 0", x.hire(0, 30, 1, 0), 0);
        c.due("lowest of the same", x.hireOf(0, 1), 1);
        x.pass(1);
        c.due("wear", x.spoolOf(1, 1), 4);
        x.hire(0, 30, 2, 0);
        c.due("less wear", x.hireOf(1, 1), 3);
        x.hire(1, 25, 2, 0);
        c.due("fewest metres", x.hireOf(2, 1), 2);
        x.hire(2, 25, 2, 0);
        c.due("fewest that is in", x.hireOf(3, 1), 5);
        x.hire(3, 25, 2, 0);
        c.due("least wear of the rest", x.hireOf(4, 1), 4);
        x.hire(4, 25, 2, 0);
        c.due("the worn one", x.hireOf(5, 1), 1);
        x.hire(5, 25, 2, 0);
        c.due("the last one", x.hireOf(6, 1), 0);
        c.due("spoolOf(0, 2)", x.spoolOf(0, 2), 6);
    }

    private void spoolThatLost() {
        KiteHire x = new KiteHire();
        x.kite(0, 12, 9, 1);
        x.kite(0, 12, 1, 1);
        x.spool(60);
        x.set(1, 20);
        x.hire(0, 20, 1, 0);
        x.pass(1);
        x.spool(40);
        x.set(1, 999);
        x.hire(1, 36, 1, 0);
        c.due("no spool for it", x.count(6), 1);
        x.hire(1, 30, 1, 0);
        c.due("the lowest of 40 metres", x.hireOf(1, 1), 0);
        x.pass(1);
        c.due("wear", x.spoolOf(0, 1), 4);
        c.due("metres lost", x.spoolOf(0, 3), 20);
        x.hire(1, 30, 2, 0);
        c.due("less wear", x.hireOf(2, 1), 1);
        x.pass(2);
        c.due("wear", x.spoolOf(1, 1), 8);
        x.hire(1, 30, 2, 0);
        c.due("less wear, whatever was lost", x.hireOf(3, 1), 0);
    }

    private void tenAtOnce() {
        KiteHire x = new KiteHire();
        for (int kite = 0; kite < 11; kite++) {
            x.kite(0, 12, 1, kite + 1);
        }
        for (int spool = 0; spool < 10; spool++) {
            x.spool(100 + spool);
        }
        for (int hire = 0; hire < 10; hire++) {
            c.due("hire", x.hire(10 - hire, 95, 12, 0), hire);
            c.due("its spool", x.hireOf(hire, 1), hire);
        }
        c.due("why, no spool is in", x.why(0, 1, 1, 0), 4);
        for (int round = 0; round < 12; round++) {
            for (int hire = round; hire < round + 10; hire++) {
                c.due("hire " + hire, x.hireOf(hire, 2), 95);
            }
            int kite = x.hireOf(round, 0);
            x.back(round, 0);
            c.due("hire in its place", x.hire(kite, 95, 12, 0), round + 10);
            c.due("paid by hire " + (round + 10), x.hireOf(round + 10, 5), 12 * (kite + 1));
        }
        c.due("hires out", x.count(7), 10);
        x.set(0, 1);
        c.due("pass(1)", x.pass(1), 10);
        c.due("coins, half of 12 for twelve hires", x.count(11), 6 * (11 + 10 + 9 + 8 + 7 + 6 + 5 + 4 + 3
                + 2 + 11 + 10));
    }

    private void hiresFull() {
        KiteHire x = Looks.ready();
        for (int hire = 0; hire < 200; hire++) {
            c.due("hire", x.hire(0, 10, 1, 0), hire);
            c.due("back", x.back(hire, 0), 1003);
        }
        c.due("hire 200", x.hire(0, 10, 1, 0), -3);
        c.due("why", x.why(0, 10, 1, 0), 0);
        c.due("hire, wrong", x.hire(0, 10, 13, 0), -2);
        c.due("hire, refused", x.hire(0, 100, 1, 0), -14);
        c.due("hires", x.count(6), 200);
        c.due("back, unknown", x.back(200, 0), -1);
        c.due("ended(0, 0)", x.ended(0, 0), 199);
        c.due("undo()", x.undo(), 3);
        c.due("hireOf(199, 2)", x.hireOf(199, 2), 10);
        c.due("undo()", x.undo(), 2);
        c.due("hire", x.hire(0, 10, 1, 0), 199);
    }

    private void lastHours() {
        KiteHire x = Looks.ready();
        x.kite(6, 12, 1, 1);
        Looks.pass(x, 998);
        refused(x, a(0, 10, 2, 0), 0);
        refused(x, a(0, 10, 3, 0), 6);
        refused(x, a(0, 10, 12, 0), 6);
        c.due("hire", x.hire(0, 10, 2, 0), 0);
        x.pass(2);
        c.due("hour", x.count(0), 1000);
        c.due("came back", x.count(8), 1);
        c.due("ended(0, 2)", x.ended(0, 2), 999);
        refused(x, a(0, 10, 1, 0), 6);
        refused(x, a(1, 10, 1, 0), 6);
        refused(x, a(1, 100, 1, 0), 4);
    }

    private void back() {
        KiteHire x = Looks.ready();
        x.kite(0, 12, 1, 99);
        x.spool(50);
        x.hire(0, 10, 3, 0);
        x.hire(1, 10, 12, 9);
        x.pass(2);
        c.due("back(0, 0)", x.back(0, 0), 1003);
        c.due("coins", x.count(11), 21 - 3 + 12 * 99);
        c.due("ended(0, 0)", x.ended(0, 0), 0);
        c.due("ended(0, 1)", x.ended(0, 1), 0);
        c.due("ended(0, 2)", x.ended(0, 2), 2);
        c.due("ended(0, 3)", x.ended(0, 3), 1018);
        c.due("kite is in", x.kiteOf(0, 0), 0);
        c.due("kite's hire", x.kiteOf(0, 7), -5);
        c.due("spool is in", x.spoolOf(1, 2), -5);
        c.due("spool is out", x.spoolOf(0, 2), 1);
        c.due("back(1, 0)", x.back(1, 0), 1000 + 495);
        c.due("ended(0, 0)", x.ended(0, 0), 1);
        c.due("tails in", x.tailsOf(0, 0), 5);
        c.due("tails out", x.tailsOf(0, 1), 0);
        c.due("tails in", x.tailsOf(3, 0), 5);
        c.due("came back", x.count(8), 2);
        c.due("hires out", x.count(7), 0);
        c.due("kite is in", x.kiteOf(1, 0), 0);
        c.due("spool is in", x.spoolOf(0, 2), -5);
        c.due("spool is in", x.spoolOf(1, 2), -5);
    }

    private void backWrong() {
        KiteHire x = Looks.ready();
        c.due("back(0, 0)", x.back(0, 0), -1);
        x.hire(0, 10, 3, 5);
        String before = Looks.of(x);
        c.due("back(1, 0)", x.back(1, 0), -1);
        c.due("back(-1, 0)", x.back(-1, 0), -1);
        c.due("back(-5, 0)", x.back(-5, 0), -1);
        c.due("back(200, 64)", x.back(200, 64), -1);
        c.due("back(MIN, 0)", x.back(MIN, 0), -1);
        c.due("back(MAX, 0)", x.back(MAX, 0), -1);
        for (int missing : new int[] {2, 3, 7, 8, 63, 64, 65, -1, -64, MIN, MAX}) {
            c.due("back(0, " + missing + ")", x.back(0, missing), -2);
        }
        c.due("look", Looks.of(x), before);
        c.due("history", x.count(16), 3);
        c.due("back(0, 4)", x.back(0, 4), 1010 - 3);
        c.due("back(0, 64)", x.back(0, 64), -1);
    }

    private void backMissing() {
        KiteHire x = Looks.ready();
        x.set(3, 20);
        x.hire(0, 10, 1, 39);
        c.due("back(0, 38)", x.back(0, 38), 1003 - 60);
        int[] in = {5, 4, 4, 5, 5, 4};
        for (int colour = 0; colour < 6; colour++) {
            c.due("in " + colour, x.tailsOf(colour, 0), in[colour]);
            c.due("out " + colour, x.tailsOf(colour, 1), 0);
            c.due("lost " + colour, x.tailsOf(colour, 2), 5 - in[colour]);
        }
        c.due("coins", x.count(11), 64);
        c.due("ended(0, 3)", x.ended(0, 3), 1064);
        x.hire(0, 10, 1, 1);
        c.due("back(1, 1)", x.back(1, 1), 1003 - 20);
        c.due("lost 0", x.tailsOf(0, 2), 1);
    }

    private void found() {
        KiteHire x = Looks.ready();
        c.due("found(-1)", x.found(-1), -1);
        c.due("found(6)", x.found(6), -1);
        c.due("found(MAX)", x.found(MAX), -1);
        c.due("found(MIN)", x.found(MIN), -1);
        c.due("found(0)", x.found(0), -5);
        x.hire(0, 10, 1, 33);
        c.due("found(0), out", x.found(0), -5);
        x.back(0, 33);
        int history = x.count(16);
        c.due("history", history, 4);
        c.due("found(1)", x.found(1), -5);
        c.due("found(5)", x.found(5), 5);
        c.due("tailsOf(5, 0)", x.tailsOf(5, 0), 5);
        c.due("tailsOf(5, 2)", x.tailsOf(5, 2), 0);
        c.due("tailsOf(0, 2)", x.tailsOf(0, 2), 1);
        c.due("found(5)", x.found(5), -5);
        c.due("found(0)", x.found(0), 5);
    }

    private void passWrong() {
        KiteHire x = Looks.ready();
        String before = Looks.of(x);
        for (int hours : new int[] {0, -1, 100, MIN, MAX}) {
            c.due("pass(" + hours + ")", x.pass(hours), -2);
        }
        c.due("look", Looks.of(x), before);
        c.due("pass(99)", x.pass(99), 0);
        c.due("hour", x.count(0), 99);
        Looks.pass(x, 9 * 99);
        c.due("hour", x.count(0), 990);
        c.due("pass(11)", x.pass(11), -3);
        c.due("pass(100)", x.pass(100), -2);
        c.due("hour", x.count(0), 990);
        c.due("pass(10)", x.pass(10), 0);
        c.due("hour", x.count(0), 1000);
        c.due("pass(1)", x.pass(1), -3);
        c.due("pass(0)", x.pass(0), -2);
    }

    private void comesBack() {
        KiteHire x = Looks.ready();
        x.hire(0, 10, 3, 3);
        c.due("pass(2)", x.pass(2), 0);
        c.due("hours left", x.hireOf(0, 3), 1);
        c.due("kite's hours", x.kiteOf(0, 5), 2);
        c.due("pass(1)", x.pass(1), 1);
        c.due("hireOf(0, 0)", x.hireOf(0, 0), -1);
        c.due("kite is in", x.kiteOf(0, 0), 0);
        c.due("kite's hire", x.kiteOf(0, 7), -5);
        c.due("spool is in", x.spoolOf(0, 2), -5);
        c.due("wear", x.spoolOf(0, 1), 12);
        c.due("tails in", x.tailsOf(0, 0), 5);
        c.due("tails out", x.tailsOf(1, 1), 0);
        c.due("ended(0, 1)", x.ended(0, 1), 0);
        c.due("ended(0, 2)", x.ended(0, 2), 2);
        c.due("ended(0, 3)", x.ended(0, 3), 1021);
        c.due("hour", x.count(0), 3);
        c.due("hours flown", x.count(14), 3);
        c.due("came back", x.count(8), 1);
        c.due("pass(5)", x.pass(5), 0);
        c.due("hours flown", x.count(14), 3);
    }

    private void calledDown() {
        KiteHire x = new KiteHire();
        x.kite(2, 6, 1, 9);
        x.spool(50);
        x.hire(0, 10, 5, 21);
        x.wind(2, 2, 6);
        x.wind(3, 3, 7);
        c.due("pass(3)", x.pass(3), 0);
        c.due("pass(1)", x.pass(1), 1);
        c.due("coins", x.count(11), 27);
        c.due("ended(0, 1)", x.ended(0, 1), 1);
        c.due("ended(0, 2)", x.ended(0, 2), 3);
        c.due("ended(0, 3)", x.ended(0, 3), 1027);
        c.due("called down", x.count(9), 1);
        c.due("came back", x.count(8), 0);
        c.due("hours flown", x.count(14), 3);
        c.due("wear", x.spoolOf(0, 1), 4 + 4 + 6);
        c.due("kite is in", x.kiteOf(0, 0), 0);
        c.due("kite's hours", x.kiteOf(0, 5), 3);
        c.due("spool is in", x.spoolOf(0, 2), -5);
        for (int colour = 0; colour < 6; colour++) {
            c.due("tails in", x.tailsOf(colour, 0), 5);
            c.due("tails out", x.tailsOf(colour, 1), 0);
            c.due("tails lost", x.tailsOf(colour, 2), 0);
        }
    }

    private void redFlag() {
        KiteHire x = Looks.ready();
        x.hire(0, 10, 4, 0);
        c.due("set(0, 4)", x.set(0, 4), 8);
        c.due("pass(1)", x.pass(1), 1);
        c.due("called down", x.count(9), 1);
        c.due("coins", x.count(11), 0);
        c.due("ended(0, 2)", x.ended(0, 2), 0);
        c.due("ended(0, 3)", x.ended(0, 3), 1000);
        x.set(0, 5);
        x.hire(0, 10, 4, 0);
        c.due("pass(4)", x.pass(4), 1);
        c.due("came back", x.count(8), 1);
        x.set(0, 13);
        x.wind(5, 5, 12);
        x.hire(0, 10, 1, 0);
        c.due("pass(1)", x.pass(1), 1);
        c.due("wear", x.spoolOf(0, 1), 28);
        c.due("came back", x.count(8), 2);
    }

    private void calm() {
        KiteHire x = new KiteHire();
        x.kite(3, 6, 2, 9);
        x.spool(50);
        x.hire(0, 10, 4, 0);
        x.wind(1, 1, 2);
        x.wind(2, 2, 3);
        x.wind(3, 3, 0);
        c.due("pass(1)", x.pass(1), 0);
        c.due("paid", x.hireOf(0, 5), 36);
        c.due("pass(1)", x.pass(1), 0);
        c.due("paid", x.hireOf(0, 5), 27);
        c.due("hours left", x.hireOf(0, 3), 2);
        c.due("coins", x.count(11), 27);
        c.due("wear", x.spoolOf(0, 1), 8);
        c.due("kite's hours", x.kiteOf(0, 5), 1);
        c.due("pass(1)", x.pass(1), 0);
        c.due("wear", x.spoolOf(0, 1), 14);
        c.due("pass(1)", x.pass(1), 1);
        c.due("ended(0, 1)", x.ended(0, 1), 0);
        c.due("ended(0, 3)", x.ended(0, 3), 1018);
        c.due("hours flown", x.count(14), 2);
        c.due("coins", x.count(11), 18);
    }

    private void snaps() {
        KiteHire x = new KiteHire();
        x.kite(0, 12, 5, 10);
        x.spool(50);
        x.set(1, 60);
        x.hire(0, 30, 6, 11);
        c.due("pass(2)", x.pass(2), 0);
        c.due("wear", x.spoolOf(0, 1), 40);
        c.due("pass(4)", x.pass(4), 1);
        c.due("kite is lost", x.kiteOf(0, 0), 2);
        c.due("kite's hours", x.kiteOf(0, 5), 3);
        c.due("kite's hire", x.kiteOf(0, 7), -5);
        c.due("metres", x.spoolOf(0, 0), 20);
        c.due("wear", x.spoolOf(0, 1), 0);
        c.due("spool is in", x.spoolOf(0, 2), -5);
        c.due("metres lost", x.spoolOf(0, 3), 30);
        for (int colour = 0; colour < 6; colour++) {
            int lost = 11 >> colour & 1;
            c.due("tails in", x.tailsOf(colour, 0), 5 - lost);
            c.due("tails out", x.tailsOf(colour, 1), 0);
            c.due("tails lost", x.tailsOf(colour, 2), lost);
        }
        c.due("coins", x.count(11), 60 + 15 + 9);
        c.due("ended(0, 1)", x.ended(0, 1), 2);
        c.due("ended(0, 2)", x.ended(0, 2), 2);
        c.due("ended(0, 3)", x.ended(0, 3), 1084);
        c.due("snapped", x.count(10), 1);
        c.due("kites lost", x.count(4), 1);
        c.due("hours flown", x.count(14), 3);
        c.due("hire(0, 1, 1, 0)", x.hire(0, 1, 1, 0), -11);
        x.kite(0, 12, 1, 1);
        c.due("hire(1, 16, 1, 0)", x.hire(1, 16, 1, 0), -14);
        c.due("hire(1, 15, 1, 0)", x.hire(1, 15, 1, 0), 1);
        x.back(1, 0);
        x.set(4, 0);
        x.set(1, 20);
        x.kite(0, 12, 9, 1);
        c.due("hire(2, 20, 1, 0)", x.hire(2, 20, 1, 0), 2);
        c.due("pass(1), the line snaps in its last hour", x.pass(1), 1);
        c.due("ended(0, 1)", x.ended(0, 1), 2);
        c.due("metres", x.spoolOf(0, 0), 0);
        c.due("metres lost", x.spoolOf(0, 3), 50);
    }

    private void snapsWithoutWind() {
        KiteHire x = Looks.ready();
        x.hire(0, 10, 12, 0);
        x.pass(5);
        c.due("wear", x.spoolOf(0, 1), 20);
        x.set(1, 20);
        x.wind(5, 999, 0);
        c.due("pass(1)", x.pass(1), 1);
        c.due("snapped", x.count(10), 1);
        KiteHire y = new KiteHire();
        y.kite(1, 12, 4, 1);
        y.spool(50);
        y.hire(0, 10, 12, 0);
        y.pass(2);
        y.set(1, 32);
        y.wind(2, 4, 0);
        c.due("pass(3), no hour flown", y.pass(3), 0);
        c.due("wear", y.spoolOf(0, 1), 32);
        c.due("pass(1)", y.pass(1), 1);
        c.due("snapped", y.count(10), 1);
    }

    private void byNumbers() {
        KiteHire x = new KiteHire();
        x.kite(0, 12, 1, 1);
        x.kite(0, 6, 1, 2);
        x.kite(0, 12, 1, 3);
        x.kite(0, 12, 1, 4);
        for (int spool = 0; spool < 4; spool++) {
            x.spool(40);
        }
        x.hire(3, 10, 5, 0);
        x.hire(1, 10, 3, 0);
        x.hire(0, 10, 2, 0);
        x.hire(2, 10, 2, 0);
        x.wind(1, 1, 7);
        c.due("pass(2)", x.pass(2), 3);
        int[] hires = {3, 2, 1};
        int[] ways = {0, 0, 1};
        for (int ago = 0; ago < 3; ago++) {
            c.due("ended(" + ago + ", 0)", x.ended(ago, 0), hires[ago]);
            c.due("ended(" + ago + ", 1)", x.ended(ago, 1), ways[ago]);
            c.due("ended(" + ago + ", 2)", x.ended(ago, 2), 1);
        }
        c.due("hire 0 goes on", x.hireOf(0, 3), 3);
        c.due("its kite", x.hireOf(0, 0), 3);
        c.due("its spool", x.hireOf(0, 1), 0);
        x.hire(1, 10, 12, 0);
        x.back(0, 0);
        c.due("hire 4 goes on", x.hireOf(4, 0), 1);
        c.due("hire 4's hours", x.hireOf(4, 3), 12);
    }

    private void set() {
        KiteHire x = new KiteHire();
        int[] first = {8, 120, 15, 3, 5};
        for (int which = 0; which < 5; which++) {
            c.due("set, the same", x.set(which, first[which]), -5);
        }
        c.due("history", x.count(16), 0);
        for (int which = 0; which < 5; which++) {
            c.due("set(" + which + ")", x.set(which, first[which] + 1), first[which]);
            c.due("count", x.count(18 + which), first[which] + 1);
        }
        c.due("history", x.count(16), 4);
        c.due("set(2, 15)", x.set(2, 15), 16);
    }

    private void setRanges() {
        KiteHire x = new KiteHire();
        int[] least = {1, 20, 0, 0, 0};
        int[] most = {13, 999, 99, 99, 50};
        int[] first = {8, 120, 15, 3, 5};
        for (int which = 0; which < 5; which++) {
            for (int value : new int[] {least[which] - 1, most[which] + 1, MIN, MAX}) {
                c.due("set(" + which + ", " + value + ")", x.set(which, value), -2);
            }
            c.due("set(" + which + ", least)", x.set(which, least[which]), first[which]);
            c.due("set(" + which + ", most)", x.set(which, most[which]), least[which]);
        }
        for (int which : new int[] {-1, 5, 6, MIN, MAX}) {
            c.due("set(" + which + ", 20)", x.set(which, 20), -2);
        }
    }
}
