/** What several tests share: all that a hut tells, in one text, and huts made ready. */
final class Looks {
    static final int UNKNOWN = -1;
    static final int BAD = -2;
    static final int FULL = -3;
    static final int NONE = -5;

    private Looks() {
    }

    /** All that is told of the state: that is, not of the text, the history and the snapshot. */
    static String of(KiteHire x) {
        StringBuilder look = new StringBuilder();
        for (int what = 0; what <= 22; what++) {
            if (what != 16 && what != 17) {
                put(look, "count", what, x.count(what));
            }
        }
        rows(look, x);
        StringBuilder winds = new StringBuilder();
        for (int hour = 0; hour < 1000; hour++) {
            winds.append((char) ('a' + x.windOf(hour)));
        }
        return look.append(winds).append(' ').append(x.perHour()).toString();
    }

    private static void rows(StringBuilder look, KiteHire x) {
        for (int kite = 0; kite < 16; kite++) {
            for (int what = 0; what < 8; what++) {
                put(look, "kite", kite, x.kiteOf(kite, what));
            }
        }
        for (int spool = 0; spool < 10; spool++) {
            for (int what = 0; what < 4; what++) {
                put(look, "spool", spool, x.spoolOf(spool, what));
            }
        }
        for (int colour = 0; colour < 6; colour++) {
            for (int what = 0; what < 3; what++) {
                put(look, "tails", colour, x.tailsOf(colour, what));
            }
        }
        for (int hire = 0; hire < x.count(6); hire++) {
            for (int what = 0; what < 6; what++) {
                put(look, "hire", hire, x.hireOf(hire, what));
            }
        }
        for (int ago = 0; ago < 8; ago++) {
            for (int what = 0; what < 4; what++) {
                put(look, "ended", ago, x.ended(ago, what));
            }
        }
    }

    private static void put(StringBuilder look, String name, int row, int value) {
        if (value != UNKNOWN) {
            look.append(name).append(row).append('=').append(value).append(' ');
        }
    }

    /** Empties the text and types another one. */
    static KiteHire text(KiteHire x, String text) {
        x.clearText();
        for (int i = 0; i < text.length(); i++) {
            x.type(text.charAt(i));
        }
        return x;
    }

    /** Lets any number of hours pass. */
    static void pass(KiteHire x, int hours) {
        for (int left = hours; left > 0; left -= 99) {
            x.pass(Math.min(left, 99));
        }
    }

    /** A hut with a kite for any wind that pulls little, and a spool of 100 metres. */
    static KiteHire ready() {
        KiteHire x = new KiteHire();
        x.kite(0, 12, 1, 7);
        x.spool(100);
        return x;
    }
}
