/** The section 'HOURS, WIND', the settings, and promises 1, 2, 11, 23 and 24: their boundary cases. */
final class HoursEdges extends Edges {
    private static final String[] SETTINGS = {"0 the red flag", "1 the strength of a line",
        "2 the fee for a snapped line", "3 the fee for a tail", "4 the spare metres"};
    private static final int[] LEAST = {1, 20, 0, 0, 0};
    private static final int[] MOST = {13, 999, 99, 99, 50};
    private static final int[] FIRST = {8, 120, 15, 3, 5};

    /** The hour of now is 1000: behind the last hour. */
    private static final String BEHIND = Script.hours(1000) + " count(0)=1000 ";

    HoursEdges(Checks checks) {
        super(checks);
    }

    @Override
    void run() {
        newHut();
        hours();
        winds();
        wind();
        settings();
        set();
        redFlag();
        behind999();
        windOf();
        count();
        perHour();
    }

    private void newHut() {
        edge("promise 1: 'a hut without kites'",
                "count(1)=0 count(2)=0 count(3)=0 count(4)=0 kiteOf(0,0)=UNKNOWN flyable(0)=0",
                "dearest(1)=NONE");
        edge("promise 1: 'a hut without .. spools'",
                "count(5)=0 count(12)=0 count(13)=0 spoolOf(0,0)=UNKNOWN");
        edge("promise 1: 'in the hour 0'", "count(0)=0");
        edge("promise 1: 'used for at most 512 calls': the last of them answers as the first",
                Script.times(255, "wind(0,0,5)=1 wind(0,0,4)=1"), "undo()=3 undo()=2");
        edge("promise 1: a new object has no hires, coins, history and text",
                "count(6)=0 count(7)=0 count(8)=0 count(9)=0 count(10)=0 count(11)=0 count(14)=0 count(15)=0",
                "count(16)=0 count(17)=0 hireOf(0,0)=UNKNOWN ended(0,0)=NONE perHour()=0 fault()=0",
                "undo()=NONE restore()=NONE");
    }

    private void hours() {
        edge("HOURS: 'Hours are numbered from 0'",
                "windOf(-1)=UNKNOWN windOf(0)=4 flyable(-1)=UNKNOWN flyable(0)=0");
        edge("HOURS: 'the hour of now is 0 at first'", "keep()=0 wind(0,0,5)=1 count(0)=0");
        edge("HOURS: 'For each hour from 0 ..': the first one", "wind(-1,0,5)=BAD wind(0,0,5)=1 windOf(0)=5");
        edge("HOURS: '.. to 999': the last one",
                "windOf(998)=4 windOf(999)=4 wind(999,999,5)=1 windOf(999)=5 windOf(998)=4");
        edge("HOURS: '.. to 999': one more",
                "windOf(1000)=UNKNOWN wind(999,1000,5)=BAD wind(1000,1000,5)=BAD windOf(999)=4");
        StringBuilder lower = new StringBuilder();
        StringBuilder upper = new StringBuilder();
        for (int hour = 0; hour < 500; hour++) {
            lower.append("windOf(").append(hour).append(")=4 ");
            upper.append("windOf(").append(hour + 500).append(")=4 ");
        }
        edge("WIND: '4 at first', the hours 0 to 499", lower.toString());
        edge("WIND: '4 at first', the hours 500 to 999", upper.toString());
    }

    private void winds() {
        edge("WIND: '0 to 12': the least", "wind(0,0,0)=1 windOf(0)=0");
        edge("WIND: '0 to 12': the greatest", "wind(0,0,12)=1 windOf(0)=12");
        edge("WIND: '0 to 12': one below", "wind(0,0,-1)=BAD windOf(0)=4");
        edge("WIND: '0 to 12': one above", "wind(0,0,13)=BAD windOf(0)=4");
    }

    private void wind() {
        edge("promise 2: from, 'the hour of now': it is the first", "pass(7) wind(7,7,5)=1 windOf(7)=5");
        edge("promise 2: from, 'the hour of now': one below",
                "pass(7) wind(6,7,5)=BAD windOf(6)=4 windOf(7)=4");
        edge("promise 2: from, 'to 999': the last", "wind(999,999,0)=1");
        edge("promise 2: from, 'to 999': one above", "wind(1000,1000,0)=BAD wind(1000,999,0)=BAD");
        edge("promise 2: to, 'from ..': the same hour",
                "wind(40,40,0)=1 windOf(39)=4 windOf(40)=0 windOf(41)=4");
        edge("promise 2: to, 'from ..': one below", "wind(40,39,0)=BAD windOf(39)=4 windOf(40)=4");
        edge("promise 2: to, '.. to 999': the last",
                "wind(0,999,0)=1000 windOf(0)=0 windOf(500)=0 windOf(999)=0");
        edge("promise 2: to, '.. to 999': one above", "wind(0,1000,0)=BAD windOf(0)=4 windOf(999)=4");
        edge("promise 2: wind, '0 to 12': the least and the greatest",
                "wind(3,4,0)=2 wind(3,4,12)=2 windOf(2)=4 windOf(3)=12 windOf(4)=12 windOf(5)=4");
        edge("promise 2: wind, '0 to 12': one below and one above", "wind(3,4,-1)=BAD wind(3,4,13)=BAD");
        edge("promise 2: 'how many of them had another wind': all", "wind(3,9,5)=7");
        edge("promise 2: 'how many of them had another wind': one alone", "wind(3,8,5)=6 wind(3,9,5)=1");
        edge("promise 2: 'how many of them had another wind': the first and the last one had not",
                "wind(3,3,5)=1 wind(9,9,5)=1 wind(3,9,5)=5");
        edge("promise 2: 'NONE if none had'", "wind(3,9,4)=NONE wind(0,999,4)=NONE count(16)=0");
        edge("promise 2: 'BAD_VALUE; NONE': the first one is told",
                "wind(-1,3,4)=BAD wind(3,2,4)=BAD wind(0,1000,4)=BAD");
        edge("promise 2: arguments at the ends of the range of int",
                "wind(MIN,3,5)=BAD wind(MAX,3,5)=BAD wind(0,MIN,5)=BAD wind(0,MAX,5)=BAD wind(MAX,MAX,5)=BAD",
                "wind(MIN,MAX,5)=BAD wind(0,3,MIN)=BAD wind(0,3,MAX)=BAD count(16)=0");
    }

    private void settings() {
        for (int which = 0; which < 5; which++) {
            String name = "settings: '" + SETTINGS[which] + " (" + LEAST[which] + " to " + MOST[which] + "; "
                    + FIRST[which] + ")': ";
            String count = "count(" + (18 + which) + ")=";
            edge(name + "the first value", count + FIRST[which]);
            edge(name + "the least", call(which, LEAST[which]) + FIRST[which], count + LEAST[which]);
            edge(name + "the greatest", call(which, MOST[which]) + FIRST[which], count + MOST[which]);
            edge(name + "one below", call(which, LEAST[which] - 1) + "BAD", count + FIRST[which]);
            edge(name + "one above", call(which, MOST[which] + 1) + "BAD", count + FIRST[which]);
            edge(name + "the ends of int", "set(" + which + ",MIN)=BAD set(" + which + ",MAX)=BAD",
                    count + FIRST[which]);
            edge(name + "the others stay", call(which, MOST[which]) + FIRST[which], others(which));
        }
    }

    private static String call(int which, int value) {
        return "set(" + which + "," + value + ")=";
    }

    private static String others(int which) {
        StringBuilder counts = new StringBuilder();
        for (int other = 0; other < 5; other++) {
            counts.append("count(").append(18 + other).append(")=")
                    .append(other == which ? MOST[other] : FIRST[other]).append(' ');
        }
        return counts.toString();
    }

    private void set() {
        edge("promise 11: which, '0 to 4': one below", "set(-1,20)=BAD");
        edge("promise 11: which, '0 to 4': one above", "set(5,20)=BAD");
        edge("promise 11: which, the ends of int", "set(MIN,20)=BAD set(MAX,20)=BAD set(MIN,MIN)=BAD");
        edge("promise 11: 'Returns the previous one'", "set(2,7)=15 set(2,0)=7 set(2,99)=0 set(2,98)=99");
        edge("promise 11: 'NONE if it is so already'",
                "set(0,8)=NONE set(1,120)=NONE set(2,15)=NONE set(3,3)=NONE set(4,5)=NONE count(16)=0",
                "set(3,4)=3 set(3,4)=NONE count(16)=1");
    }

    private void redFlag() {
        String hired = READY + "hire(0,10,2,0)=0";
        edge("WIND: 'that of the red flag or more nothing flies': the wind one below it",
                hired, "set(0,5)=8 count(15)=0 pass(1)=0 count(14)=1 count(9)=0");
        edge("WIND: 'that of the red flag or more nothing flies': the wind just that",
                hired, "set(0,4)=8 count(15)=1 pass(1)=1 count(14)=0 count(9)=1");
        edge("WIND: 'that of the red flag or more nothing flies': the wind one above it",
                hired, "set(0,3)=8 count(15)=1 pass(1)=1 count(14)=0 count(9)=1");
        edge("WIND: the red flag at 13 is never up", hired, "wind(0,0,12)=1 count(15)=1 set(0,13)=8",
                "count(15)=0 pass(1)=0 count(14)=1");
        edge("WIND: the red flag at 12, wind 12", hired,
                "wind(0,0,12)=1 set(0,12)=8 count(15)=1 pass(1)=1 count(9)=1");
        edge("WIND: the red flag at 1, wind 0", hired,
                "wind(0,0,0)=1 set(0,1)=8 count(15)=0 pass(1)=0 count(14)=1");
        edge("WIND: the red flag at 1, wind 1", hired,
                "wind(0,0,1)=1 set(0,1)=8 count(15)=1 pass(1)=1 count(9)=1");
        edge("WIND: the red flag holds for all kites", READY,
                "kite(0,3,1,1)=1 kite(4,4,1,1)=2 kite(12,12,1,1)=3", "flyable(0)=5 set(0,4)=8 flyable(0)=0");
    }

    private void behind999() {
        edge("promise 10: 'FULL if the hour would be more than 1000': just 1000",
                Script.hours(990), "pass(10)=0 count(0)=1000");
        edge("promise 10: 'FULL if the hour would be more than 1000': one more",
                Script.hours(990), "pass(11)=FULL count(0)=990");
        edge("promise 10: 'FULL if the hour would be more than 1000': none is left",
                BEHIND, "pass(1)=FULL pass(99)=FULL count(0)=1000");
        edge("promise 10: 'BAD_VALUE; FULL': the first one is told",
                BEHIND, "pass(0)=BAD pass(100)=BAD pass(MIN)=BAD pass(MAX)=BAD");
        edge("behind the hour 999: no wind can be foreseen",
                BEHIND, "wind(999,999,5)=BAD wind(1000,1000,5)=BAD wind(0,999,5)=BAD windOf(999)=4");
        edge("behind the hour 999: the reasons 2 and 3 do not hold", READY,
                "kite(12,12,1,1)=1 kite(0,0,1,1)=2", BEHIND,
                "why(0,10,1,0)=6 why(1,10,1,0)=6 why(2,10,1,0)=6",
                "set(0,1)=8 why(0,10,1,0)=6 hire(0,10,12,0)=-16");
        edge("behind the hour 999: nothing can be hired",
                READY, BEHIND, "next(0,1)=NONE next(0,12)=NONE longest(0,10)=NONE dearest(10)=NONE");
        edge("behind the hour 999: a hire up to it has ended", Script.hours(988), READY,
                "hire(0,10,12,63)=0 pass(12)=1 count(0)=1000 hireOf(0,0)=UNKNOWN snapsIn(0)=UNKNOWN",
                "back(0,0)=UNKNOWN ended(0,2)=999 kiteOf(0,0)=0 tailsOf(0,1)=0");
        edge("behind the hour 999: nothing more happens", READY, BEHIND,
                "ifPassed(1,0)=0 ifPassed(1,1)=0 ifPassed(99,2)=0 ifPassed(99,3)=0 ifPassed(99,4)=100000");
        edge("behind the hour 999: winds are told as before", "kite(4,4,1,1)=0", BEHIND,
                "windOf(999)=4 flyable(999)=1 flyable(1000)=UNKNOWN windOf(1000)=UNKNOWN");
        edge("behind the hour 999: a text of winds is too long, one of kites is not",
                BEHIND, "text(w4x1) tellAll()=BAD text(k0-0*1$1) tellAll()=1 count(1)=1");
        edge("behind the hour 999: what comes can still come", BEHIND,
                "kite(0,12,1,1)=0 spool(5)=0 tails(0,1)=6 set(0,1)=8 count(16)=4 undo()=3 count(18)=8");
        edge("behind the hour 999: undo brings the hours back", Script.hours(990),
                "pass(9)=0 pass(1)=0 count(0)=1000 undo()=3 count(0)=999 wind(999,999,5)=1");
        edge("behind the hour 999: keep and restore", Script.hours(1000),
                "keep()=1000 undo()=3 count(0)=990 restore()=1000 count(0)=1000 pass(1)=FULL");
    }

    private void windOf() {
        edge("promise 23: hour, '0 to 999': the first and the last",
                "wind(0,0,1)=1 wind(999,999,2)=1 windOf(0)=1 windOf(999)=2");
        edge("promise 23: hour, '0 to 999': one below and one above",
                "windOf(-1)=UNKNOWN windOf(1000)=UNKNOWN");
        edge("promise 23: hour, the ends of int", "windOf(MIN)=UNKNOWN windOf(MAX)=UNKNOWN");
        edge("promise 23: an hour that is gone by", "wind(0,0,9)=1 pass(1) windOf(0)=9 pass(99) windOf(0)=9");
    }

    private void count() {
        edge("promise 24: what, the first and the last", "count(0)=0 count(22)=5");
        edge("promise 24: what, one below and one above", "count(-1)=BAD count(23)=BAD");
        edge("promise 24: what, the ends of int", "count(MIN)=BAD count(MAX)=BAD");
        edge("promise 24: '0 for the hour of now'", "pass(99) pass(1) count(0)=100");
        edge("promise 24: '1 for kites, 2 to 4 for those that are in, out and lost'",
                "kite(0,12,1,7)=0 kite(0,12,1,7)=1 kite(0,12,1,7)=2 kite(0,12,9,7)=3 spool(50)=0 spool(50)=1",
                "count(1)=4 count(2)=4 count(3)=0 count(4)=0 hire(3,10,12,0)=0 hire(0,10,12,0)=1",
                "count(1)=4 count(2)=2 count(3)=2 count(4)=0 pass(4)=1",
                "count(1)=4 count(2)=2 count(3)=1 count(4)=1 back(1,0) count(2)=3 count(3)=0 count(4)=1");
        edge("promise 24: '5 for spools'", "count(5)=0 spool(9)=0 count(5)=1 spool(9)=1 count(5)=2");
        edge("promise 24: '6 for hires so far, 7 for hires that have not ended'", READY,
                "hire(0,1,2,0)=0 count(6)=1 count(7)=1 back(0,0) count(6)=1 count(7)=0",
                "hire(0,300,1,0)=-14 count(6)=1 hire(0,1,1,0)=1 count(6)=2 count(7)=1 pass(1)=1 count(6)=2",
                "count(7)=0");
        edge("promise 24: '8 to 10 for hires that came back, were called down, and snapped'",
                "kite(0,12,1,7)=0 kite(0,6,1,7)=1 kite(0,12,9,7)=2 spool(50)=0 spool(50)=1 spool(50)=2",
                "hire(0,1,3,0)=0 hire(1,1,3,0)=1 hire(2,1,12,0)=2 wind(2,2,7)=1 pass(2)=0",
                "count(8)=0 count(9)=0 count(10)=0 pass(1)=3 count(8)=1 count(9)=1 count(10)=1",
                "hire(0,1,1,0)=3 back(3,0) count(8)=2");
        edge("promise 24: '11 for coins taken less those given back'",
                READY, "hire(0,1,3,1)=0 count(11)=21 back(0,1)=1007 count(11)=14");
        edge("promise 24: '12 for metres on all spools, 13 for metres lost so far'",
                "kite(0,12,9,7)=0 kite(0,12,9,7)=1 set(4,0) spool(300)=0 spool(1)=1 count(12)=301",
                "count(13)=0", "hire(0,295,12,0)=0 count(12)=301 pass(4)=1 count(12)=6 count(13)=295",
                "hire(1,1,12,0)=1 pass(4)=1 count(12)=5 count(13)=296");
        edge("promise 24: '14 for hours flown so far'",
                READY, "kite(5,12,1,1)=1 spool(50)=1 wind(0,0,5)=1 hire(0,1,2,0)=0 hire(1,1,2,0)=1",
                "count(14)=0 pass(1) count(14)=2 pass(1)=2 count(14)=3 pass(1) count(14)=3");
        edge("promise 24: '15 .. behind the hour 999 it is not'",
                "set(0,1)=8", Script.hours(999), "count(15)=1 pass(1) count(15)=0");
        edge("promise 24: '15 .. in the hour of now'",
                "wind(1,1,8)=1 wind(2,2,7)=1 count(15)=0 pass(1) count(15)=1 pass(1) count(15)=0");
        edge("promise 24: '16 for the states in the history'",
                "count(16)=0 spool(1) count(16)=1 spool(1) spool(1) spool(1) count(16)=4 spool(1)",
                "count(16)=4", "undo()=3 count(16)=3");
        edge("promise 24: '17 for the length of the text'",
                "count(17)=0 type(a)=1 count(17)=1 type(b)=2 count(17)=2 clearText()=2 count(17)=0");
        edge("promise 24: '18 to 22 for the settings'",
                "count(18)=8 count(19)=120 count(20)=15 count(21)=3 count(22)=5");
    }

    private void perHour() {
        edge("promise 25: '0.0 without any'", READY, "perHour()=0 hire(0,1,12,0)=0 count(11)=84 perHour()=0");
        edge("promise 25: 'divided by the hours flown': one", READY, "hire(0,1,1,0)=0 pass(1)=1 perHour()=7");
        edge("promise 25: 'as a double': a part of a coin",
                "kite(0,12,1,1)=0 spool(9)=0 hire(0,1,12,0)=0 pass(8) back(0,0)=1002 perHour()=1.25");
        edge("promise 25: 'as a double': a number that ends nowhere", READY,
                "hire(0,1,4,0)=0 pass(3)=0 back(0,0)=1003 count(11)=25 perHour()=8.333333333333334");
        edge("promise 25: coins that are given back count no more",
                READY, "hire(0,1,4,0)=0 pass(1) perHour()=28 set(0,1)=8 pass(1)=1 count(11)=7 perHour()=7");
        edge("promise 25: hours that do not fly count not",
                "kite(4,12,1,6)=0 spool(9)=0 hire(0,1,3,0)=0 wind(1,1,3)=1 pass(3)=1 count(14)=2 perHour()=6");
    }
}
