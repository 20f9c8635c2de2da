/** The section 'TEXTS' and promises 6 and 12 to 14: their boundary cases. */
final class TextEdges extends Edges {
    private static final String DIGITS = "0123456789";
    private static final String FROM_1 = "123456789";
    private static final String TWELVE = "w10x1;w0x1;w0x1;w0x1;w0x1;w0x1;w0x1;w0x1;w0x1;w0x1;w0x1;w0x1";

    private final Checks c;

    TextEdges(Checks checks) {
        super(checks);
        c = checks;
    }

    @Override
    void run() {
        type();
        clearText();
        eachPlace();
        fault();
        numbers();
        tellAllWinds();
        tellAllKites();
        allOrNothing();
        firstError();
        oneAct();
    }

    private void type() {
        edge("TEXTS: 'empty at first'", "count(17)=0 fault()=0 tellAll()=-100 clearText()=0");
        edge("TEXTS: 'at most 60 characters': the last one that has room", Script.times(59, "type(w)"),
                "type(w)=60 count(17)=60");
        edge("TEXTS: 'at most 60 characters': one more", Script.times(60, "type(w)"),
                "type(w)=FULL type(;)=FULL count(17)=60");
        edge("promise 12: 'FULL if it has 60 characters': the text stays", "text(" + TWELVE + ")",
                "count(17)=60 fault()=NONE type(0)=FULL fault()=NONE tellAll()=12 windOf(0)=10 windOf(11)=0",
                "windOf(12)=4");
        edge("promise 12: 'Returns the length then'", "type(a)=1 type(b)=2 type(c)=3 clearText()=3 type(d)=1");
        edge("promise 12: 'any character': the first and the last",
                "type(0000)=1 type(65535)=2 type(10)=3 type(32)=4 type(255)=5 type(256)=6 count(17)=6",
                "fault()=0");
        edge("promise 12: a type is no act",
                "type(w)=1 count(16)=0 spool(9)=0 type(1)=2 count(16)=1 undo()=0 count(17)=2");
    }

    private void clearText() {
        edge("promise 13: 'Returns the length that it had': none", "clearText()=0 clearText()=0");
        edge("promise 13: 'Returns the length that it had': 60", Script.times(60, "type(w)"),
                "clearText()=60 count(17)=0 clearText()=0");
        edge("promise 13: 'Empties the text': there is room again", Script.times(60, "type(k)"),
                "type(k)=FULL clearText()=60 type(w)=1 fault()=1");
        edge("promise 13: 'Empties the text': nothing of it stays",
                "text(w1x1) fault()=NONE clearText()=4 fault()=0 type(w)=1 fault()=1 type(1)=2 fault()=2");
        edge("promise 13: a clearText is no act",
                "type(w)=1 clearText()=1 count(16)=0 undo()=NONE count(17)=0");
    }

    /** What may stand behind each text, and whether it may end there, told by hand from 'TEXTS'. */
    private void eachPlace() {
        place("", "wk", false);
        place("w", DIGITS, false);
        place("w0", "x", false);
        place("w1", "x012", false);
        place("w2", "x", false);
        place("w9", "x", false);
        place("w10", "x", false);
        place("w12", "x", false);
        place("w4x", FROM_1, false);
        place("w12x", FROM_1, false);
        place("w4x1", ";" + DIGITS, true);
        place("w4x9", ";" + DIGITS, true);
        place("w4x10", ";", true);
        place("w4x99", ";", true);
        place("w12x99", ";", true);
        place("k", DIGITS, false);
        place("k0", "-", false);
        place("k1", "-012", false);
        place("k2", "-", false);
        place("k12", "-", false);
        place("k0-", DIGITS, false);
        place("k0-0", "*", false);
        place("k0-1", "*012", false);
        place("k0-2", "*", false);
        place("k0-12", "*", false);
        place("k9-3", "*", false);
        place("k12-10", "*", false);
        place("k0-12*", FROM_1, false);
        place("k0-12*1", "$", false);
        place("k0-12*9", "$", false);
        place("k0-12*9$", FROM_1, false);
        place("k0-12*9$1", ";" + DIGITS, true);
        place("k0-12*9$9", ";" + DIGITS, true);
        place("k0-12*9$10", ";", true);
        place("k0-12*9$99", ";", true);
        place("w4x1;", "wk", false);
        place("w4x99;", "wk", false);
        place("k0-12*9$9;", "wk", false);
        place("k0-12*9$99;", "wk", false);
        place("w4x1;w", DIGITS, false);
        place("w4x1;w1", "x012", false);
        place("w4x1;w1x", FROM_1, false);
        place("w4x1;w1x9", ";" + DIGITS, true);
        place("w4x1;w1x99;k1-1*1$1;k", DIGITS, false);
        place("w4x1;w1x99;k1-1*1$1;k12-1*8$1", ";" + DIGITS, true);
    }

    private void place(String text, String allowed, boolean mayEnd) {
        c.test("TEXTS: 'or the length of the text if it ends too early': " + text,
                () -> c.due("fault() of " + text, typed(text).fault(), mayEnd ? -5 : text.length()));
        c.test("TEXTS: 'the first character that is not allowed at its place': behind " + text, () -> {
            for (int sign = 0; sign < 320; sign++) {
                sign(text, (char) sign, allowed.indexOf(sign) >= 0);
            }
            sign(text, (char) ('0' + 256), false);
            sign(text, (char) 0x660, false);
            sign(text, (char) 0xff11, false);
            sign(text, (char) 32768, false);
            sign(text, (char) 65535, false);
        });
    }

    private static KiteHire typed(String text) {
        return Looks.text(new KiteHire(), text);
    }

    private void sign(String text, char sign, boolean allowed) {
        KiteHire x = typed(text);
        x.type(sign);
        int got = x.fault();
        // A digit that is allowed may end the text, or stand where it ends too early.
        boolean ends = allowed && got == -5 && sign >= '0' && sign <= '9';
        int due = ends ? -5 : text.length() + (allowed ? 1 : 0);
        c.due("fault() of " + text + " and the sign " + (int) sign, got, due);
        if (!allowed) {
            x.type(';');
            x.type('w');
            c.due("fault() of " + text + ", the sign " + (int) sign + " and ;w", x.fault(), text.length());
        }
    }

    private void faultOf(String sentence, String text, int due) {
        edge(sentence + ": " + text, "text(" + text + ")", "fault()=" + due,
                "tellAll()=" + (due < 0 ? text.split(";").length : -100 - due));
    }

    private void fault() {
        edge("TEXTS: '(the empty text does)'",
                "fault()=0 tellAll()=-100 type(w)=1 clearText()=1 fault()=0 tellAll()=-100");
        edge("promise 14: 'NONE if it has none'", "text(w0x1) fault()=NONE count(16)=0 tellAll()=1");
        faultOf("TEXTS: 'one or more parts': one wind", "w4x1", -5);
        faultOf("TEXTS: 'one or more parts': one kite", "k0-0*1$1", -5);
        faultOf("TEXTS: 'one or more parts': two", "k0-0*1$1;w4x1", -5);
        faultOf("TEXTS: 'one or more parts': as many as have room", TWELVE, -5);
        faultOf("TEXTS: 'with \";\" between two': none ahead of the first", ";w4x1", 0);
        faultOf("TEXTS: 'with \";\" between two': none behind the last", "w4x1;", 5);
        faultOf("TEXTS: 'with \";\" between two': not two", "w4x1;;w4x1", 5);
        faultOf("TEXTS: 'with \";\" between two': it is wanting", "w4x1w4x1", 4);
        faultOf("TEXTS: 'with \";\" between two': in a part", "w4;x1", 2);
        faultOf("TEXTS: the first of several faults", "w13x0;z", 2);
        faultOf("TEXTS: the first of several faults", "w12x0;z", 4);
        faultOf("TEXTS: a fault in the second part", "w4x1;z", 5);
        faultOf("TEXTS: a fault in the last place", "w4x1;k0-0*1$1;w4xx", 17);
        faultOf("TEXTS: the fault in the last of 60 characters", TWELVE.substring(0, 59) + "x", 59);
        faultOf("TEXTS: 60 characters that end too early", TWELVE.substring(0, 57) + "xx;", 57);
        faultOf("TEXTS: 60 characters, and no room for the last part", "w0x1;".repeat(12), 60);
        edge("promise 6: '-100 minus the fault of the text': the least and the greatest fault",
                "tellAll()=-100 text(" + "w0x1;".repeat(12) + ") count(17)=60 tellAll()=-160");
        faultOf("TEXTS: small letters alone", "W4x1", 0);
        faultOf("TEXTS: small letters alone", "w4X1", 2);
        faultOf("TEXTS: small letters alone", "K0-0*1$1", 0);
    }

    private void numbers() {
        faultOf("TEXTS: 'no zero in front, unless they are the single digit 0': the wind 0", "w0x1", -5);
        faultOf("TEXTS: 'no zero in front': the wind 00", "w00x1", 2);
        faultOf("TEXTS: 'no zero in front': the wind 01", "w01x1", 2);
        faultOf("TEXTS: 'no zero in front': the hours 01", "w4x01", 3);
        faultOf("TEXTS: 'hours (1 to 99)': 0", "w4x0", 3);
        faultOf("TEXTS: 'hours (1 to 99)': 1", "w4x1", -5);
        faultOf("TEXTS: 'hours (1 to 99)': 99", "w4x99", -5);
        faultOf("TEXTS: 'a digit by which a number would be greater than told': the hours 100", "w4x100", 5);
        faultOf("TEXTS: 'a digit by which a number would be greater than told': the hours 990", "w4x990", 5);
        faultOf("TEXTS: 'a wind (0 to 12)': 9", "w9x1", -5);
        faultOf("TEXTS: 'a wind (0 to 12)': 10", "w10x1", -5);
        faultOf("TEXTS: 'a wind (0 to 12)': 12", "w12x1", -5);
        faultOf("TEXTS: 'a digit by which a number would be greater than told': the wind 13", "w13x1", 2);
        faultOf("TEXTS: 'a digit by which a number would be greater than told': the wind 20", "w20x1", 2);
        faultOf("TEXTS: 'a digit by which a number would be greater than told': the wind 120", "w120x1", 3);
        faultOf("TEXTS: 'least .., greatest wind (each 0 to 12)': 0 and 0", "k0-0*1$1", -5);
        faultOf("TEXTS: 'least .., greatest wind (each 0 to 12)': 12 and 12", "k12-12*1$1", -5);
        faultOf("TEXTS: 'a digit by which a number would be greater than told': the least 13", "k13-13*1$1",
                2);
        faultOf("TEXTS: 'a digit by which a number would be greater than told': the least 120", "k120-12*1$1",
                3);
        faultOf("TEXTS: 'a digit by which a number would be greater than told': the greatest 13", "k0-13*1$1",
                4);
        faultOf("TEXTS: 'a digit by which a number would be greater than told': the greatest 30", "k0-30*1$1",
                4);
        faultOf("TEXTS: 'no zero in front': the least 00", "k00-0*1$1", 2);
        faultOf("TEXTS: 'no zero in front': the greatest 012", "k0-012*1$1", 4);
        faultOf("TEXTS: 'the pull (1 to 9)': 0", "k0-0*0$1", 5);
        faultOf("TEXTS: 'the pull (1 to 9)': 9", "k0-0*9$1", -5);
        faultOf("TEXTS: 'a digit by which a number would be greater than told': the pull 10", "k0-0*10$1", 6);
        faultOf("TEXTS: 'no zero in front': the pull 01", "k0-0*01$1", 5);
        faultOf("TEXTS: 'the price (1 to 99)': 0", "k0-0*1$0", 7);
        faultOf("TEXTS: 'the price (1 to 99)': 99", "k0-0*1$99", -5);
        faultOf("TEXTS: 'a digit by which a number would be greater than told': the price 100", "k0-0*1$100",
                9);
        faultOf("TEXTS: 'no zero in front': the price 01", "k0-0*1$01", 7);
        faultOf("TEXTS: a number is wanting: the wind", "wx1", 1);
        faultOf("TEXTS: a number is wanting: the hours", "w4x;w4x1", 3);
        faultOf("TEXTS: a number is wanting: the least wind", "k-1*1$1", 1);
        faultOf("TEXTS: a number is wanting: the greatest wind", "k1-*1$1", 3);
        faultOf("TEXTS: a number is wanting: the pull", "k1-1*$1", 5);
        faultOf("TEXTS: a number is wanting: the price", "k1-1*1$;", 7);
        faultOf("TEXTS: no number has a sign", "w-1x1", 1);
        faultOf("TEXTS: no number has a sign", "w4x+1", 3);
    }

    private void tellAllWinds() {
        edge("TEXTS: 'beginning with the hour of now': the hour 0",
                "text(w5x1) tellAll()=1 windOf(0)=5 windOf(1)=4");
        edge("TEXTS: 'beginning with the hour of now': a later hour",
                "pass(7) text(w5x1) tellAll()=1 windOf(6)=4 windOf(7)=5 windOf(8)=4");
        edge("TEXTS: 'for so many hours': 99",
                "text(w5x99) tellAll()=1 windOf(0)=5 windOf(98)=5 windOf(99)=4");
        edge("TEXTS: 'for so many hours': 10", "text(w5x10) tellAll()=1 windOf(9)=5 windOf(10)=4");
        edge("TEXTS: 'a wind (0 to 12)': the least and the greatest are told",
                "text(w0x1;w12x1;w10x1;w9x1) tellAll()=4 windOf(0)=0 windOf(1)=12 windOf(2)=10 windOf(3)=9");
        edge("TEXTS: 'each one behind the one before'",
                "text(w5x2;w6x3;w7x1) tellAll()=3 windOf(1)=5 windOf(2)=6 windOf(4)=6 windOf(5)=7",
                "windOf(6)=4");
        edge("TEXTS: 'each one behind the one before': kites between them take no hours",
                "text(k0-0*1$1;w5x2;k1-1*1$1;w6x2;k2-2*1$1) tellAll()=5 windOf(0)=5 windOf(1)=5 windOf(2)=6",
                "windOf(3)=6 windOf(4)=4 count(1)=3");
        edge("promise 6: told again, it begins with the hour that is then now",
                "text(w5x2;w6x1) tellAll()=2 pass(2) tellAll()=2 windOf(2)=5 windOf(3)=5 windOf(4)=6",
                "windOf(5)=4");
        edge("promise 6: 'BAD_VALUE if an hour would be above 999': just 999", Script.hours(998),
                "text(w5x2) tellAll()=1 windOf(997)=4 windOf(998)=5 windOf(999)=5");
        edge("promise 6: 'BAD_VALUE if an hour would be above 999': 1000", Script.hours(998),
                "text(w5x3) tellAll()=BAD windOf(998)=4 windOf(999)=4");
        edge("promise 6: 'BAD_VALUE if an hour would be above 999': two parts up to 999", Script.hours(998),
                "text(w5x1;w6x1) tellAll()=2 windOf(998)=5 windOf(999)=6");
        edge("promise 6: 'BAD_VALUE if an hour would be above 999': the second part", Script.hours(998),
                "text(w5x2;w6x1) tellAll()=BAD windOf(998)=4 windOf(999)=4");
        edge("promise 6: 'BAD_VALUE if an hour would be above 999': in the hour 1000", Script.hours(1000),
                "text(w4x1) tellAll()=BAD");
        edge("promise 6: 'BAD_VALUE if an hour would be above 999': 99 hours in the hour 901 and 900",
                Script.hours(900),
                "text(w5x99) tellAll()=1 windOf(998)=5 windOf(999)=4 pass(1) tellAll()=1 windOf(999)=5",
                "pass(1) tellAll()=BAD");
    }

    private void tellAllKites() {
        edge("TEXTS: 'a kite comes': the least numbers",
                "text(k0-0*1$1) tellAll()=1 count(1)=1 kiteOf(0,0)=0 kiteOf(0,1)=0 kiteOf(0,2)=0",
                "kiteOf(0,3)=1 kiteOf(0,4)=1 kiteOf(0,7)=NONE");
        edge("TEXTS: 'a kite comes': the greatest numbers",
                "text(k12-12*9$99) tellAll()=1 kiteOf(0,1)=12 kiteOf(0,2)=12 kiteOf(0,3)=9 kiteOf(0,4)=99",
                "kiteOf(0,5)=0 kiteOf(0,6)=0");
        edge("TEXTS: 'a kite comes': by the order of the parts, behind those that came",
                "kite(9,9,9,9)=0 text(k1-2*3$4;k5-6*7$8) tellAll()=2 kiteOf(0,1)=9 kiteOf(1,1)=1",
                "kiteOf(1,4)=4 kiteOf(2,1)=5 kiteOf(2,4)=8 count(1)=3");
        edge("promise 6: 'BAD_VALUE if .. the greatest wind of a kite is below its least': they are the same",
                "text(k5-5*1$1) tellAll()=1");
        edge("promise 6: 'BAD_VALUE if .. the greatest wind of a kite is below its least': one below",
                "text(k5-4*1$1) fault()=NONE tellAll()=BAD count(1)=0");
        edge("promise 6: 'BAD_VALUE if .. the greatest wind of a kite is below its least': of two digits",
                "text(k10-9*1$1) tellAll()=BAD text(k9-10*1$1) tellAll()=1");
        edge("promise 6: 'FULL if more than 16 kites would have come': just 16",
                Script.times(14, "kite(0,12,1,1)"),
                "text(k1-1*1$1;k2-2*1$1) tellAll()=2 count(1)=16 kiteOf(15,1)=2");
        edge("promise 6: 'FULL if more than 16 kites would have come': 17",
                Script.times(15, "kite(0,12,1,1)"), "text(k1-1*1$1;k2-2*1$1) tellAll()=FULL count(1)=15");
        edge("promise 6: 'FULL if more than 16 kites would have come': 16 came ahead",
                Script.times(16, "kite(0,12,1,1)"),
                "text(k1-1*1$1) tellAll()=FULL text(w5x1) tellAll()=1 count(1)=16");
        edge("promise 6: 'how many parts the text has': one and two",
                "text(w4x1) tellAll()=1 text(w4x1;w4x1) tellAll()=2");
        edge("promise 6: 'how many parts the text has': twelve", "text(" + TWELVE + ")", "tellAll()=12");
        edge("promise 6: 'how many parts the text has': six kites",
                "text(k0-0*1$1;k0-0*1$1;k0-0*1$1;k0-0*1$1;k0-0*1$1;k0-0*1$1)", "tellAll()=6 count(1)=6");
        edge("promise 6: 16 kites by texts, and one more",
                "text(k0-0*1$1;k0-0*1$1;k0-0*1$1;k0-0*1$1) tellAll()=4 tellAll()=4 tellAll()=4 tellAll()=4",
                "tellAll()=FULL count(1)=16");
    }

    private void allOrNothing() {
        String fifteen = Script.times(15, "kite(0,12,1,1)");
        edge("promise 6: 'all of it or nothing': a wind ahead of a kite that is not in order",
                "text(w5x2;k5-4*1$1) tellAll()=BAD windOf(0)=4 windOf(1)=4 count(1)=0 count(16)=0");
        edge("promise 6: 'all of it or nothing': a kite ahead of one that is not in order",
                "text(k1-1*1$1;k5-4*1$1) tellAll()=BAD count(1)=0 kiteOf(0,0)=UNKNOWN count(16)=0");
        edge("promise 6: 'all of it or nothing': a kite ahead of winds that are too long", Script.hours(999),
                "text(k1-1*1$1;w5x2) tellAll()=BAD count(1)=0 count(16)=4");
        edge("promise 6: 'all of it or nothing': a wind ahead of winds that are too long", Script.hours(998),
                "text(w5x1;w6x2) tellAll()=BAD windOf(998)=4 windOf(999)=4");
        edge("promise 6: 'all of it or nothing': a wind ahead of one kite too many", fifteen,
                "kite(0,12,1,1)=15 text(w5x1;k1-1*1$1) tellAll()=FULL windOf(0)=4 count(1)=16");
        edge("promise 6: 'all of it or nothing': a kite that has room ahead of one that has not", fifteen,
                "text(k1-1*1$1;w5x1;k1-1*1$1) tellAll()=FULL count(1)=15 kiteOf(15,0)=UNKNOWN windOf(0)=4");
        edge("promise 6: 'all of it or nothing': parts that are in order behind one that is not",
                "text(k5-4*1$1;w5x2;k1-1*1$1) tellAll()=BAD windOf(0)=4 count(1)=0");
        edge("promise 6: 'all of it or nothing': parts ahead of a fault",
                "text(w5x2;k1-1*1$1;w) tellAll()=-115 windOf(0)=4 count(1)=0 count(16)=0");
        edge("promise 6: 'all of it or nothing': an error leaves the text, which can be gone on with",
                "text(k5-4) tellAll()=-104 type(*)=5 type(1)=6 type($)=7 type(1)=8 tellAll()=BAD count(17)=8",
                "clearText()=8");
    }

    private void firstError() {
        String sixteen = Script.times(16, "kite(0,12,1,1)");
        edge("promise 6: '-100 minus the fault .. ; BAD_VALUE; FULL': the fault ahead of BAD_VALUE",
                "text(k5-4*1$1;) tellAll()=-109");
        edge("promise 6: '-100 minus the fault .. ; BAD_VALUE; FULL': the fault ahead of FULL", sixteen,
                "text(k1-1*1$1;w) tellAll()=-110");
        edge("promise 6: '(the first one, as the parts come)': FULL, then BAD_VALUE of a kite", sixteen,
                "text(k1-1*1$1;k5-4*1$1) tellAll()=FULL");
        edge("promise 6: '(the first one, as the parts come)': BAD_VALUE of a kite, then FULL", sixteen,
                "text(k5-4*1$1;k1-1*1$1) tellAll()=BAD");
        edge("promise 6: '(the first one, as the parts come)': FULL, then BAD_VALUE of an hour", sixteen,
                Script.hours(999), "text(k1-1*1$1;w5x2) tellAll()=FULL");
        edge("promise 6: '(the first one, as the parts come)': BAD_VALUE of an hour, then FULL", sixteen,
                Script.hours(999), "text(w5x2;k1-1*1$1) tellAll()=BAD");
        edge("promise 6: '(the first one, as the parts come)': no hour is above 999, FULL", sixteen,
                Script.hours(999), "text(w5x1;k1-1*1$1) tellAll()=FULL text(w5x1) tellAll()=1");
        edge("promise 6: 'BAD_VALUE ..; FULL': of the same kite BAD_VALUE is told", sixteen,
                "text(k5-4*1$1) tellAll()=BAD");
    }

    private void oneAct() {
        edge("promise 6: 'the text, which stays'",
                "text(w5x1;k1-1*1$1) tellAll()=2 count(17)=13 fault()=NONE tellAll()=2 count(1)=2",
                "clearText()=13");
        edge("promise 6: 'This is one act': many parts, one state",
                "text(w5x1;k1-1*1$1;w6x1;k2-2*1$1) tellAll()=4 count(16)=1 undo()=0 windOf(0)=4 windOf(1)=4",
                "count(1)=0");
        edge("promise 6: 'This is one act': a text that changes no wind is one, too",
                "text(w4x9) tellAll()=1 count(16)=1 undo()=0 undo()=NONE");
        edge("promise 6: 'which is an error': no state is recorded",
                "tellAll()=-100 text(w) tellAll()=-101 text(k5-4*1$1) tellAll()=BAD count(16)=0");
    }
}
