/** Promises 6 and 12 to 14: the text, its fault, and what it tells. */
final class TextTests {
    private final Checks c;

    TextTests(Checks checks) {
        c = checks;
    }

    void run() {
        c.test("promise 6: tellAll, winds", this::winds);
        c.test("promise 6: tellAll, kites", this::kites);
        c.test("promise 6: tellAll, a fault", this::tellFault);
        c.test("promise 6: tellAll, all or nothing", this::allOrNothing);
        c.test("promise 6: tellAll, the first error as the parts come", this::firstError);
        c.test("promise 6: tellAll is one act, the text stays", this::oneAct);
        c.test("promise 12: type", this::type);
        c.test("promise 13: clearText", this::clearText);
        c.test("promise 14: texts without a fault", this::noFault);
        c.test("promise 14: texts with a fault", this::faults);
        c.test("promise 14: every sign at every place", this::everySign);
    }

    private void winds() {
        KiteHire x = new KiteHire();
        x.pass(10);
        c.due("tellAll()", Looks.text(x, "w0x2;w12x10;w7x1").tellAll(), 3);
        c.due("windOf(9)", x.windOf(9), 4);
        c.due("windOf(10)", x.windOf(10), 0);
        c.due("windOf(11)", x.windOf(11), 0);
        c.due("windOf(12)", x.windOf(12), 12);
        c.due("windOf(21)", x.windOf(21), 12);
        c.due("windOf(22)", x.windOf(22), 7);
        c.due("windOf(23)", x.windOf(23), 4);
        c.due("tellAll()", Looks.text(x, "w10x99").tellAll(), 1);
        c.due("windOf(10)", x.windOf(10), 10);
        c.due("windOf(108)", x.windOf(108), 10);
        c.due("windOf(109)", x.windOf(109), 4);
        Looks.pass(x, 980);
        c.due("hour", x.count(0), 990);
        c.due("tellAll()", Looks.text(x, "w1x11").tellAll(), -2);
        c.due("tellAll()", Looks.text(x, "w1x5;w2x6").tellAll(), -2);
        c.due("windOf(990)", x.windOf(990), 4);
        c.due("tellAll()", Looks.text(x, "w1x5;w2x5").tellAll(), 2);
        c.due("windOf(994)", x.windOf(994), 1);
        c.due("windOf(999)", x.windOf(999), 2);
        x.pass(10);
        c.due("tellAll()", Looks.text(x, "w1x1").tellAll(), -2);
        c.due("tellAll()", Looks.text(x, "k0-0*1$1").tellAll(), 1);
    }

    private void kites() {
        KiteHire x = new KiteHire();
        x.kite(1, 2, 3, 4);
        c.due("tellAll()", Looks.text(x, "k0-12*9$99;w5x1;k10-10*1$10").tellAll(), 3);
        c.due("kites", x.count(1), 3);
        int[][] due = {{0, 0, 12, 9, 99, 0, 0, -5}, {0, 10, 10, 1, 10, 0, 0, -5}};
        for (int kite = 1; kite < 3; kite++) {
            for (int what = 0; what < 8; what++) {
                c.due("kiteOf(" + kite + ", " + what + ")", x.kiteOf(kite, what), due[kite - 1][what]);
            }
        }
        c.due("windOf(0)", x.windOf(0), 5);
        c.due("windOf(1)", x.windOf(1), 4);
    }

    private void tellFault() {
        KiteHire x = new KiteHire();
        String before = Looks.of(x);
        c.due("tellAll(), empty", x.tellAll(), -100);
        c.due("tellAll()", Looks.text(x, "w5x9;").tellAll(), -105);
        c.due("tellAll()", Looks.text(x, "w5x9;k5-4").tellAll(), -109);
        c.due("tellAll(), a fault ahead of other errors",
                Looks.text(x, "k5-4*1$1;z").tellAll(), -109);
        c.due("look", Looks.of(x), before);
        c.due("history", x.count(16), 0);
    }

    private void allOrNothing() {
        KiteHire x = new KiteHire();
        String before = Looks.of(x);
        c.due("tellAll()", Looks.text(x, "w5x9;k1-5*1$1;k5-4*1$1").tellAll(), -2);
        c.due("look", Looks.of(x), before);
        c.due("history", x.count(16), 0);
        for (int kite = 0; kite < 15; kite++) {
            x.kite(1, 2, 3, 4);
        }
        before = Looks.of(x);
        c.due("tellAll()", Looks.text(x, "w5x9;k1-5*1$1;k4-4*1$1").tellAll(), -3);
        c.due("look", Looks.of(x), before);
        c.due("tellAll()", Looks.text(x, "w5x9;k1-5*1$1").tellAll(), 2);
        c.due("kites", x.count(1), 16);
        c.due("tellAll()", x.tellAll(), -3);
        c.due("tellAll()", Looks.text(x, "w6x9").tellAll(), 1);
    }

    private void firstError() {
        KiteHire x = new KiteHire();
        for (int kite = 0; kite < 16; kite++) {
            x.kite(1, 2, 3, 4);
        }
        Looks.pass(x, 995);
        c.due("tellAll()", Looks.text(x, "k1-2*3$4;k2-1*3$4").tellAll(), -3);
        c.due("tellAll()", Looks.text(x, "k2-1*3$4;k1-2*3$4").tellAll(), -2);
        c.due("tellAll()", Looks.text(x, "k2-1*3$4").tellAll(), -2);
        c.due("tellAll()", Looks.text(x, "k1-2*3$4;w1x6").tellAll(), -3);
        c.due("tellAll()", Looks.text(x, "w1x6;k1-2*3$4").tellAll(), -2);
        c.due("tellAll()", Looks.text(x, "w1x5;k1-2*3$4").tellAll(), -3);
        c.due("tellAll()", Looks.text(x, "w1x5").tellAll(), 1);
    }

    private void oneAct() {
        KiteHire x = new KiteHire();
        String before = Looks.of(x);
        c.due("tellAll()", Looks.text(x, "w5x2;k1-5*1$1;w6x2;k1-6*1$1").tellAll(), 4);
        c.due("history", x.count(16), 1);
        c.due("text", x.count(17), 27);
        String after = Looks.of(x);
        c.due("undo()", x.undo(), 0);
        c.due("look", Looks.of(x), before);
        c.due("text", x.count(17), 27);
        c.due("tellAll()", x.tellAll(), 4);
        c.due("look", Looks.of(x), after);
        c.due("tellAll() of the winds that are", Looks.text(x, "w5x2;w6x2").tellAll(), 2);
        c.due("history", x.count(16), 2);
        c.due("look", Looks.of(x), after);
    }

    private void type() {
        KiteHire x = new KiteHire();
        int history = x.count(16);
        for (int length = 1; length <= 60; length++) {
            c.due("type", x.type((char) (length * 1000)), length);
            c.due("count(17)", x.count(17), length);
        }
        c.due("type, full", x.type('w'), -3);
        c.due("count(17)", x.count(17), 60);
        c.due("history", x.count(16), history);
        c.due("clearText()", x.clearText(), 60);
        c.due("type", x.type((char) 0), 1);
        c.due("type", x.type((char) 65535), 2);
    }

    private void clearText() {
        KiteHire x = new KiteHire();
        c.due("clearText()", x.clearText(), 0);
        Looks.text(x, "w1x1");
        c.due("clearText()", x.clearText(), 4);
        c.due("count(17)", x.count(17), 0);
        c.due("fault()", x.fault(), 0);
        c.due("history", x.count(16), 0);
        x.type('w');
        c.due("fault()", x.fault(), 1);
    }

    private void noFault() {
        KiteHire x = new KiteHire();
        String[] texts = {"w0x1", "w12x99", "w9x10", "k0-0*1$1", "k12-12*9$99", "k9-10*5$9",
            "k5-4*1$1", "w1x1;w1x1", "k1-2*3$4;w10x20;k11-12*3$40", "w1x99;w1x99;w1x99",
            "w0x1;w0x1;w0x1;w0x1;w0x1;w0x1;w0x1;w0x1;w0x1;w0x1;w0x1;w0x1"};
        for (String text : texts) {
            c.due("fault() of " + text, Looks.text(x, text).fault(), -5);
        }
        c.due("tellAll(), twelve parts", x.tellAll(), 12);
        c.due("tellAll(), 60 signs",
                Looks.text(x, "k10-12*1$10;k10-12*1$10;k10-12*1$10;k10-12*1$10;k10-12*1$10;").tellAll(),
                -160);
        c.due("type, full", x.type('w'), -3);
    }

    private void faults() {
        KiteHire x = new KiteHire();
        String[] texts = {"", "x", "w", "wx", "w1", "w13", "w01", "w00", "w20", "w120", "w1;", "w1x", "w1x0",
            "w1x01", "w1x100", "w1x999", "w1x1x", "w1x1;", "w1x1;;", "w1x1;x", "w1x1w1x1", " w1x1",
            "w 1x1", "w-1x1", "W1x1", "w1X1", "k", "k-", "k1", "k1-", "k13", "k1*", "k1-13", "k1-01",
            "k1-2", "k1-2*", "k1-2*0", "k1-2*10", "k1-2*3", "k1-2*3*", "k1-2*3$", "k1-2*3$0",
            "k1-2*3$01", "k1-2*3$100", "k1-2*3$4$", "k1-2*3$4;k", "K1-2*3$4", ";w1x1", ";"};
        int[] faults = {0, 0, 1, 1, 2, 2, 2, 2, 2, 3, 2, 3, 3,
            3, 5, 5, 4, 5, 5, 5, 4, 0,
            1, 1, 0, 2, 1, 1, 2, 3, 2, 2, 4, 4,
            4, 5, 5, 6, 6, 6, 7, 7,
            7, 9, 8, 10, 0, 0, 0};
        c.due("the lists are as long", texts.length, faults.length);
        for (int i = 0; i < texts.length && i < faults.length; i++) {
            c.due("fault() of " + texts[i], Looks.text(x, texts[i]).fault(), faults[i]);
            c.due("tellAll() of " + texts[i], x.tellAll(), -100 - faults[i]);
        }
        c.due("history", x.count(16), 0);
    }

    /** A text without a fault; what may stand in each of its places is told by hand. */
    private void everySign() {
        String text = "w1x1;k0-5*2$9;w";
        String[] may = {"wk", "0123456789", "x012", "123456789", ";0123456789", "wk", "0123456789",
            "-", "0123456789", "*", "123456789", "$", "123456789", ";0123456789", "wk"};
        KiteHire x = new KiteHire();
        for (int place = 0; place < may.length; place++) {
            for (int sign = 0; sign < 400; sign++) {
                Looks.text(x, text.substring(0, place));
                x.type((char) sign);
                boolean allowed = may[place].indexOf(sign) >= 0;
                boolean ends = allowed && (sign >= '0' && sign <= '9')
                        && (place == 3 || place == 4 || place == 12 || place == 13);
                int due = ends ? -5 : allowed ? place + 1 : place;
                c.due("fault() with sign " + sign + " at " + place, x.fault(), due);
            }
        }
    }
}
