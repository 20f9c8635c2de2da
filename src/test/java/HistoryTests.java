/** Promises 15 to 17: undo, keep and restore; and which calls are recorded. */
final class HistoryTests {
    private final Checks c;

    HistoryTests(Checks checks) {
        c = checks;
    }

    void run() {
        c.test("promise 15: undo brings each act back", this::undoEach);
        c.test("promise 15: at most 4 states", this::atMostFour);
        c.test("promise 15: undo and new acts", this::undoAndOn);
        c.test("promise 15: undo brings back how hires ended", this::undoEnded);
        c.test("promise 15: errors and NONE are not recorded", this::notRecorded);
        c.test("promise 15: what tells is not recorded", this::tellsNothing);
        c.test("promise 16: keep", this::keep);
        c.test("promise 17: restore", this::restore);
        c.test("promise 17: the snapshot stays, and is no part of a state", this::snapshotStays);
    }

    private interface Act {
        int on(KiteHire x);
    }

    private static KiteHire busy() {
        KiteHire x = Looks.ready();
        x.kite(2, 7, 9, 30);
        x.spool(60);
        x.hire(0, 10, 9, 7);
        x.pass(2);
        x.back(0, 2);
        x.hire(0, 20, 4, 1);
        x.hire(1, 30, 5, 9);
        return Looks.text(x, "w6x3;k0-9*9$9");
    }

    private void undoEach() {
        Act[] acts = {x -> x.wind(3, 9, 2), x -> x.kite(1, 2, 3, 4), x -> x.spool(7),
            x -> x.tails(3, 4), x -> x.tellAll(), x -> x.back(2, 8), x -> x.found(1),
            x -> x.pass(4), x -> x.set(3, 9), x -> x.hire(0, 1, 1, 4), x -> x.pass(99)};
        for (int i = 0; i < acts.length; i++) {
            KiteHire x = busy();
            if (i == 9) {
                x.back(1, 0);
            }
            String before = Looks.of(x);
            int answer = acts[i].on(x);
            c.due("act " + i + " is one", answer >= 0 ? 1 : 0, 1);
            String after = Looks.of(x);
            c.due("act " + i + " changes", after.equals(before) ? 1 : 0, 0);
            c.due("history", x.count(16), 4);
            c.due("undo()", x.undo(), 3);
            c.due("look after undo of act " + i, Looks.of(x), before);
            c.due("act " + i + " again", acts[i].on(x), answer);
            c.due("look after act " + i + " again", Looks.of(x), after);
        }
    }

    private void atMostFour() {
        KiteHire x = new KiteHire();
        c.due("undo()", x.undo(), -5);
        for (int fee = 20; fee < 31; fee++) {
            x.set(2, fee);
            c.due("history", x.count(16), Math.min(4, fee - 19));
        }
        for (int left = 3; left >= 0; left--) {
            c.due("undo()", x.undo(), left);
            c.due("fee", x.count(20), 26 + left);
            c.due("history", x.count(16), left);
        }
        c.due("undo()", x.undo(), -5);
        c.due("fee", x.count(20), 26);
    }

    private void undoAndOn() {
        KiteHire x = new KiteHire();
        for (int fee = 20; fee < 26; fee++) {
            x.set(2, fee);
        }
        x.undo();
        x.undo();
        c.due("fee", x.count(20), 23);
        x.set(2, 50);
        x.set(2, 51);
        x.set(2, 52);
        c.due("history", x.count(16), 4);
        int[] due = {51, 50, 23, 22};
        for (int i = 0; i < 4; i++) {
            c.due("undo()", x.undo(), 3 - i);
            c.due("fee", x.count(20), due[i]);
        }
        c.due("undo()", x.undo(), -5);
        x.set(2, 77);
        c.due("history", x.count(16), 1);
        c.due("undo()", x.undo(), 0);
        c.due("fee", x.count(20), 22);
    }

    private void undoEnded() {
        KiteHire x = Looks.ready();
        for (int hire = 0; hire < 9; hire++) {
            x.hire(0, 10, 1, 0);
            x.pass(1);
        }
        x.hire(0, 10, 3, 0);
        x.keep();
        x.back(9, 0);
        for (int ago = 0; ago < 8; ago++) {
            c.due("ended(" + ago + ", 0)", x.ended(ago, 0), 9 - ago);
            c.due("ended(" + ago + ", 2)", x.ended(ago, 2), 9 - ago);
        }
        x.undo();
        for (int ago = 0; ago < 8; ago++) {
            c.due("ended(" + ago + ", 0) after undo", x.ended(ago, 0), 8 - ago);
            c.due("ended(" + ago + ", 2) after undo", x.ended(ago, 2), 8 - ago);
        }
        x.pass(9);
        x.restore();
        for (int ago = 0; ago < 8; ago++) {
            c.due("ended(" + ago + ", 3) after restore", x.ended(ago, 3), 1007);
            c.due("ended(" + ago + ", 0) after restore", x.ended(ago, 0), 8 - ago);
        }
    }

    private void notRecorded() {
        KiteHire x = busy();
        for (int left = x.count(16); left > 2; left--) {
            x.undo();
        }
        String before = Looks.of(x);
        int[] answers = {x.wind(0, 9, 2), x.wind(3, 3, 4), x.kite(5, 2, 3, 4), x.spool(0), x.tails(9, 4),
            x.tails(0, 0), x.back(9, 0), x.back(2, 6), x.found(5), x.found(6), x.pass(0), x.set(3, 3),
            x.set(9, 3), x.hire(9, 1, 1, 0), x.hire(0, 0, 1, 0), x.hire(0, 300, 1, 0), x.restore()};
        for (int i = 0; i < answers.length; i++) {
            c.due("answer " + i + " is an error or NONE", answers[i] < 0 ? 1 : 0, 1);
        }
        c.due("tellAll()", Looks.text(x, "w1").tellAll(), -102);
        c.due("tellAll()", Looks.text(x, "k2-1*1$1").tellAll(), -2);
        c.due("look", Looks.of(x), before);
        c.due("history", x.count(16), 2);
    }

    private void tellsNothing() {
        KiteHire x = busy();
        x.undo();
        String before = Looks.of(x);
        x.type('w');
        x.clearText();
        x.fault();
        x.keep();
        x.why(0, 1, 1, 0);
        x.next(0, 5);
        x.longest(0, 5);
        x.snapsIn(1);
        x.flyable(5);
        for (int what = 0; what < 5; what++) {
            x.ifPassed(99, what);
        }
        x.dearest(5);
        c.due("look", Looks.of(x), before);
        c.due("history", x.count(16), 3);
    }

    private void keep() {
        KiteHire x = busy();
        c.due("keep()", x.keep(), 2);
        c.due("history", x.count(16), 4);
        String kept = Looks.of(x);
        x.pass(9);
        x.wind(20, 30, 1);
        c.due("keep()", x.keep(), 11);
        String later = Looks.of(x);
        x.pass(1);
        c.due("restore()", x.restore(), 11);
        c.due("look", Looks.of(x), later);
        c.due("differs", later.equals(kept) ? 1 : 0, 0);
    }

    private void restore() {
        KiteHire x = busy();
        c.due("restore()", x.restore(), -5);
        x.keep();
        String kept = Looks.of(x);
        x.pass(3);
        x.kite(1, 1, 1, 1);
        x.tails(4, 4);
        x.set(0, 2);
        Looks.text(x, "abc");
        String before = Looks.of(x);
        x.undo();
        x.undo();
        x.set(3, 8);
        String changed = Looks.of(x);
        c.due("history", x.count(16), 3);
        c.due("restore()", x.restore(), 2);
        c.due("look", Looks.of(x), kept);
        c.due("history", x.count(16), 4);
        c.due("text", x.count(17), 3);
        c.due("undo()", x.undo(), 3);
        c.due("look", Looks.of(x), changed);
        c.due("differs", changed.equals(before) ? 1 : 0, 0);
    }

    private void snapshotStays() {
        KiteHire x = new KiteHire();
        x.set(2, 20);
        x.keep();
        x.set(2, 30);
        for (int round = 0; round < 3; round++) {
            c.due("restore()", x.restore(), 0);
            c.due("fee", x.count(20), 20);
            c.due("hire later", x.set(2, 40 + round), 20);
        }
        c.due("restore()", x.restore(), 0);
        c.due("restore() of the same", x.restore(), 0);
        c.due("history", x.count(16), 4);
        x.undo();
        c.due("fee", x.count(20), 20);
        x.undo();
        c.due("fee", x.count(20), 42);
        KiteHire y = new KiteHire();
        y.set(2, 20);
        y.keep();
        y.undo();
        c.due("fee", y.count(20), 15);
        c.due("restore(), undo leaves the snapshot", y.restore(), 0);
        c.due("fee", y.count(20), 20);
    }
}
