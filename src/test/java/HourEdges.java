/** The section 'AN HOUR' and promises 10, 22, 29 and 31: their boundary cases. */
final class HourEdges extends Edges {
    /** A kite for winds 4 to 6 that pulls 2 and costs 10, out for 5 hours with the tails 0 and 5. */
    private static final String OUT = " kite(4,6,2,10)=0 spool(60)=0 hire(0,50,5,33)=0 ";

    /** A kite that wears 36 in an hour of wind 4, out for 12 hours with the tails 0 and 5. */
    private static final String STRONG = " kite(0,12,9,10)=0 spool(60)=0 hire(0,50,12,33)=0 ";

    HourEdges(Checks checks) {
        super(checks);
    }

    @Override
    void run() {
        calledDown();
        notFlown();
        flown();
        snapping();
        theLastHour();
        byNumbers();
        theHourThen();
        pass();
        ended();
        snapsIn();
        ifPassed();
    }

    private void calledDown() {
        edge("AN HOUR: '1. If w is above the kite's greatest wind': just the greatest", OUT,
                "wind(0,0,6)=1 pass(1)=0 count(9)=0 count(14)=1");
        edge("AN HOUR: '1. If w is above the kite's greatest wind': one above", OUT,
                "wind(0,0,7)=1 pass(1)=1 count(9)=1 count(14)=0 ended(0,1)=1");
        edge("AN HOUR: '1. .. or the red flag is up': w one below it", OUT,
                "set(0,5) pass(1)=0 count(9)=0 count(14)=1");
        edge("AN HOUR: '1. .. or the red flag is up': w just that", OUT,
                "set(0,4) pass(1)=1 count(9)=1 count(14)=0 ended(0,1)=1");
        edge("AN HOUR: '1. .. or the red flag is up': w is below the kite's least, too", OUT,
                "wind(0,0,3)=1 set(0,3) pass(1)=1 count(9)=1 count(11)=0 ended(0,1)=1");
        edge("AN HOUR: '1. .. is called down': though it would snap", STRONG,
                "set(1,20) set(0,4) pass(1)=1 count(9)=1 count(10)=0 spoolOf(0,1)=0");
        edge("AN HOUR: '1. .. is called down': not one of which the later hours are windy", OUT,
                "wind(1,1,7)=1 pass(1)=0 count(9)=0 pass(1)=1 count(9)=1");
        edge("AN HOUR: '.. the price for the hours that are left back (this hour, too)': in the first hour",
                OUT, "count(11)=50 set(0,4) pass(1)=1 count(11)=0 ended(0,3)=1000");
        edge("AN HOUR: '.. the price for the hours that are left back (this hour, too)': in the second hour",
                OUT, "pass(1) set(0,4) pass(1)=1 count(11)=10 ended(0,3)=1010");
        edge("AN HOUR: '.. the price for the hours that are left back (this hour, too)': in the last hour",
                OUT, "pass(4)=0 set(0,4) pass(1)=1 count(11)=40 ended(0,3)=1040 ended(0,1)=1");
        edge("AN HOUR: '.. the price for the hours that are left back': behind a calm hour",
                OUT, "wind(0,0,3)=1 pass(1)=0 count(11)=40 set(0,4) pass(1)=1 count(11)=0 ended(0,3)=1000");
        edge("AN HOUR: 1. called down: it is not flown, and brings no wear", OUT,
                "pass(1) set(0,4) pass(1)=1 spoolOf(0,1)=8 kiteOf(0,5)=1 count(14)=1 perHour()=10");
        edge("AN HOUR: 1. called down: no fees are paid", OUT,
                "set(2,99) set(3,99) set(0,4) pass(1)=1 count(11)=0 ended(0,3)=1000");
        edge("AN HOUR: 1. called down: nothing is lost", OUT,
                "set(0,4) pass(1)=1 kiteOf(0,0)=0 spoolOf(0,0)=60 spoolOf(0,3)=0 count(13)=0 tailsOf(0,2)=0",
                "tailsOf(5,2)=0 tailsOf(0,0)=5");
    }

    private void notFlown() {
        edge("AN HOUR: '2. Otherwise, if w is below the kite's least wind': just the least", OUT,
                "pass(1)=0 count(14)=1 count(11)=50 spoolOf(0,1)=8");
        edge("AN HOUR: '2. Otherwise, if w is below the kite's least wind': one below", OUT,
                "wind(0,0,3)=1 pass(1)=0 count(14)=0 count(11)=40 spoolOf(0,1)=0");
        edge("AN HOUR: '2. .. it does not fly in this hour': no wind at all", OUT,
                "wind(0,0,0)=1 pass(1)=0 count(14)=0 count(11)=40 kiteOf(0,5)=0 perHour()=0");
        edge("AN HOUR: '2. .. gets the price for it back': one hour, and the hours that are left are one less",
                OUT, "wind(0,0,3)=1 pass(1)=0 hireOf(0,5)=40 hireOf(0,3)=4");
        edge("AN HOUR: '2. .. gets the price for it back': each hour of a hire", OUT,
                "wind(0,9,3)=10 pass(5)=1 count(11)=0 ended(0,1)=0 ended(0,3)=1000 count(8)=1");
        edge("AN HOUR: '2. .. gets the price for it back': the last hour, and it comes back", OUT,
                "wind(4,4,3)=1 pass(4)=0 count(11)=50 pass(1)=1 count(11)=40 ended(0,1)=0 ended(0,3)=1040",
                "ended(0,2)=4");
        edge("AN HOUR: 2. no line snaps in it, though the wear is the strength or more", OUT,
                "pass(3)=0 spoolOf(0,1)=24 set(1,20) wind(3,3,3)=1 pass(1)=0 count(10)=0 spoolOf(0,1)=24");
        edge("AN HOUR: 2. a kite whose least wind is 0 flies in no wind", READY,
                "hire(0,1,1,0)=0 wind(0,0,0)=1 pass(1)=1 count(14)=1 count(11)=7 spoolOf(0,1)=0");
    }

    private void flown() {
        edge("AN HOUR: '3. .. the wear of its spool is more by w times the kite's pull': the least", READY,
                "hire(0,1,2,0)=0 wind(0,0,0)=1 wind(1,1,1)=1 pass(1) spoolOf(0,1)=0 pass(1)=1 spoolOf(0,1)=1");
        edge("AN HOUR: '3. .. the wear of its spool is more by w times the kite's pull': the greatest",
                STRONG, "set(0,13) wind(0,0,12)=1 pass(1)=0 spoolOf(0,1)=108");
        edge("AN HOUR: '3. .. the wear of its spool is more': each hour", OUT,
                "pass(1) spoolOf(0,1)=8 wind(1,1,5)=1 pass(1) spoolOf(0,1)=18 wind(2,2,6)=1 pass(1)",
                "spoolOf(0,1)=30");
        edge("AN HOUR: '3. .. the wear of its spool is more': of its own spool alone",
                "kite(0,12,2,1)=0 kite(0,12,3,1)=1 spool(20)=0 spool(20)=1 spool(20)=2 hire(0,1,1,0)=0",
                "hire(1,1,1,0)=1 pass(1)=2 spoolOf(0,1)=8 spoolOf(1,1)=12 spoolOf(2,1)=0");
        edge("AN HOUR: '(this counts as an hour flown ..)'", OUT,
                "count(14)=0 kiteOf(0,5)=0 pass(1) count(14)=1 kiteOf(0,5)=1 pass(4)=1 count(14)=5",
                "kiteOf(0,5)=5");
        edge("AN HOUR: '(this counts as an hour flown, also if the line snaps)'", STRONG,
                "set(1,20) pass(1)=1 count(10)=1 count(14)=1 kiteOf(0,5)=1");
        edge("AN HOUR: 3. an hour that is flown gives nothing back", OUT,
                "pass(4)=0 count(11)=50 hireOf(0,5)=50 hireOf(0,3)=1");
    }

    private void snapping() {
        edge("AN HOUR: 'If the wear is the strength of a line or more': one below", STRONG,
                "set(1,37) pass(1)=0 spoolOf(0,1)=36 count(10)=0");
        edge("AN HOUR: 'If the wear is the strength of a line or more': just that", STRONG,
                "set(1,36) pass(1)=1 spoolOf(0,1)=0 count(10)=1");
        edge("AN HOUR: 'If the wear is the strength of a line or more': one above", STRONG,
                "set(1,35) pass(1)=1 spoolOf(0,1)=0 count(10)=1");
        edge("AN HOUR: 'If the wear is the strength of a line or more': the strength is 120 at first", STRONG,
                "pass(3)=0 spoolOf(0,1)=108 pass(1)=1 count(10)=1 ended(0,2)=3");
        edge("AN HOUR: 'If the wear is the strength of a line or more': the wear of earlier hires counts",
                "kite(0,12,5,1)=0 spool(60)=0 set(1,60) hire(0,9,2,0)=0 pass(2)=1 hire(0,9,1,0)=1 pass(1)=1",
                "ended(0,0)=1 ended(0,1)=2");
        edge("AN HOUR: 'If the wear is the strength of a line or more': made less, the next hour flown",
                STRONG,
                "pass(3)=0 spoolOf(0,1)=108 set(1,108) hireOf(0,3)=9 wind(3,3,0)=1 pass(1)=1 count(10)=1");
        edge("AN HOUR: 'If the wear is the strength of a line or more': the greatest strength", STRONG,
                "set(1,999) pass(11)=0 spoolOf(0,1)=396 pass(1)=1 count(8)=1 spoolOf(0,1)=432");
        edge("AN HOUR: 'the hire's metres are lost (the spool has so many fewer)': some of them", STRONG,
                "set(1,20) pass(1)=1 spoolOf(0,0)=10 spoolOf(0,3)=50 count(12)=10 count(13)=50");
        edge("AN HOUR: 'the hire's metres are lost': one",
                "kite(0,12,9,1)=0 spool(6)=0 set(1,20) hire(0,1,1,0)=0 pass(1)=1 spoolOf(0,0)=5",
                "spoolOf(0,3)=1");
        edge("AN HOUR: 'the hire's metres are lost': all of the spool",
                "kite(0,12,9,1)=0 spool(6)=0 set(1,20) set(4,0) hire(0,6,1,0)=0 pass(1)=1 spoolOf(0,0)=0",
                "spoolOf(0,3)=6");
        edge("AN HOUR: 'the wear is 0'", STRONG, "pass(3)=0 spoolOf(0,1)=108 pass(1)=1 spoolOf(0,1)=0");
        edge("AN HOUR: 'the kite is lost'", STRONG,
                "set(1,20) pass(1)=1 kiteOf(0,0)=2 count(4)=1 hire(0,1,1,0)=-11");
        edge("AN HOUR: 'its tails are lost'", STRONG,
                "set(1,20) pass(1)=1 tailsOf(0,0)=4 tailsOf(0,1)=0 tailsOf(0,2)=1 tailsOf(5,2)=1",
                "tailsOf(1,2)=0 tailsOf(1,0)=5");
        edge("AN HOUR: 'the hirer pays the fee for a snapped line': 15 at first, without tails",
                "kite(0,12,9,10)=0 spool(60)=0 set(1,20) hire(0,1,1,0)=0 pass(1)=1 count(11)=25",
                "ended(0,3)=1025");
        edge("AN HOUR: 'the hirer pays the fee for a snapped line': 0",
                "kite(0,12,9,10)=0 spool(60)=0 set(1,20) set(2,0) hire(0,1,1,0)=0 pass(1)=1 count(11)=10",
                "ended(0,3)=1010");
        edge("AN HOUR: 'the hirer pays the fee for a snapped line': 99",
                "kite(0,12,9,10)=0 spool(60)=0 set(1,20) set(2,99) hire(0,1,1,0)=0 pass(1)=1 count(11)=109",
                "ended(0,3)=1109");
        edge("AN HOUR: 'and for each tail the fee for a tail': two of 3", STRONG,
                "set(1,20) pass(1)=1 count(11)=141 ended(0,3)=1141");
        edge("AN HOUR: 'and for each tail the fee for a tail': two of 0", STRONG,
                "set(1,20) set(3,0) pass(1)=1 count(11)=135 ended(0,3)=1135");
        edge("AN HOUR: 'and for each tail the fee for a tail': six of 99",
                "kite(0,12,9,10)=0 spool(60)=0 set(1,20) set(3,99) hire(0,1,1,63)=0 pass(1)=1 count(11)=619",
                "ended(0,3)=1619");
        edge("AN HOUR: 'nothing is given back': in the first of 12 hours", STRONG,
                "set(1,20) set(2,0) set(3,0) pass(1)=1 count(11)=120 ended(0,3)=1120");
        edge("AN HOUR: what is paid is the fee of the hour in which it snaps", STRONG,
                "set(2,20) pass(1) set(2,30) set(3,0) pass(3)=1 count(11)=150");
        edge("AN HOUR: 3. a line that snaps in its last hour did not come back",
                "kite(0,12,9,10)=0 spool(60)=0 set(1,72) hire(0,1,2,0)=0 pass(1)=0 pass(1)=1 count(10)=1",
                "count(8)=0 ended(0,1)=2 count(7)=0");
        edge("AN HOUR: 3. a line that would snap an hour later comes back",
                "kite(0,12,9,10)=0 spool(60)=0 set(1,73) hire(0,1,2,0)=0 pass(2)=1 count(10)=0 count(8)=1",
                "spoolOf(0,1)=72");
        edge("AN HOUR: 3. the spool whose line snapped can be hired at once", STRONG,
                "kite(0,12,1,1)=1 set(1,20) hire(1,1,1,0)=-14 pass(1)=1 hire(1,6,1,0)=-14 hire(1,5,1,0)=1",
                "hireOf(1,1)=0 pass(1)=1 spoolOf(0,1)=4");
    }

    private void theLastHour() {
        edge("AN HOUR: '4. .. its hours that are left are one less'", OUT,
                "hireOf(0,3)=5 pass(1)=0 hireOf(0,3)=4 pass(1)=0 hireOf(0,3)=3");
        edge("AN HOUR: '4. .. if none are left, it comes back': one is left", OUT,
                "pass(4)=0 hireOf(0,3)=1 count(8)=0 kiteOf(0,0)=1");
        edge("AN HOUR: '4. .. if none are left, it comes back': none is left", OUT,
                "pass(5)=1 hireOf(0,3)=UNKNOWN count(8)=1 kiteOf(0,0)=0 ended(0,2)=4 ended(0,3)=1050");
        edge("AN HOUR: '4. .. if none are left, it comes back': a hire of one hour", READY,
                "hire(0,1,1,0)=0 pass(1)=1 count(8)=1 ended(0,3)=1007");
        edge("AN HOUR: 4. it comes back with its tails", OUT,
                "tailsOf(0,0)=4 pass(5)=1 tailsOf(0,0)=5 tailsOf(0,1)=0 tailsOf(0,2)=0 tailsOf(5,0)=5",
                "tailsOf(5,1)=0");
        edge("AN HOUR: 4. nothing happens to it behind its last hour", OUT,
                "pass(5)=1 pass(7)=0 spoolOf(0,1)=40 count(14)=5 count(11)=50 kiteOf(0,5)=5");
    }

    private void byNumbers() {
        String three = "kite(0,12,1,1)=0 kite(0,6,1,1)=1 kite(0,12,9,1)=2 spool(20)=0 spool(20)=1 spool(20)=2 ";
        edge("AN HOUR: 'for each hire, by numbers': two come back in the same hour", three,
                "hire(1,1,1,0)=0 hire(0,1,1,0)=1 pass(1)=2 ended(0,0)=1 ended(1,0)=0 ended(0,2)=0",
                "ended(1,2)=0 count(8)=2");
        edge("AN HOUR: 'for each hire, by numbers': two that were hired in other hours",
                three, "hire(2,1,2,0)=0 pass(1)=0 hire(0,1,1,0)=1 pass(1)=2 ended(0,0)=1 ended(1,0)=0");
        edge("AN HOUR: 'for each hire, by numbers': one comes back, one is called down, one snaps",
                three, "hire(0,1,1,0)=0 hire(1,1,1,0)=1 hire(2,1,1,0)=2 wind(0,0,7)=1 set(1,63) pass(1)=3",
                "ended(0,0)=2 ended(0,1)=2 ended(1,0)=1 ended(1,1)=1 ended(2,0)=0 ended(2,1)=0");
        edge("AN HOUR: 'for each hire, by numbers': one snaps, one is called down, one comes back",
                three, "hire(2,1,1,0)=0 hire(1,1,1,0)=1 hire(0,1,1,0)=2 wind(0,0,7)=1 set(1,63) pass(1)=3",
                "ended(0,0)=2 ended(0,1)=0 ended(1,0)=1 ended(1,1)=1 ended(2,0)=0 ended(2,1)=2");
        edge("AN HOUR: 'for each hire': the first ends, the others go on", three,
                "hire(0,1,1,0)=0 hire(1,1,3,0)=1 hire(2,1,2,0)=2 pass(1)=1 hireOf(1,3)=2 hireOf(2,3)=1",
                "hireOf(1,0)=1 hireOf(2,0)=2",
                "spoolOf(0,1)=4 spoolOf(1,1)=4 spoolOf(2,1)=36 pass(1)=1 ended(0,0)=2 pass(1)=1 ended(0,0)=1");
        edge("AN HOUR: 'for each hire': the middle one ends, the others go on", three,
                "hire(0,1,3,0)=0 hire(1,1,1,0)=1 hire(2,1,2,0)=2 pass(1)=1 hireOf(0,3)=2 hireOf(2,3)=1",
                "count(14)=3");
        edge("AN HOUR: 'for each hire': the last one ends, the others go on", three,
                "hire(0,1,3,0)=0 hire(1,1,2,0)=1 hire(2,1,1,0)=2 pass(1)=1 hireOf(0,3)=2 hireOf(1,3)=1",
                "count(14)=3");
        edge("AN HOUR: 'for each hire, by numbers': a later hire has the earlier one's kite and spool", three,
                "hire(0,1,9,0)=0 hire(1,1,2,0)=1 back(0,0) hire(0,1,2,0)=2 hireOf(2,1)=0 pass(2)=2",
                "ended(0,0)=2 ended(1,0)=1");
        StringBuilder ten = new StringBuilder();
        StringBuilder order = new StringBuilder();
        for (int hire = 0; hire < 10; hire++) {
            ten.append("kite(0,12,1,1)=").append(hire).append(" spool(20)=").append(hire).append(' ');
        }
        for (int hire = 0; hire < 10; hire++) {
            ten.append("hire(").append(9 - hire).append(",1,2,0)=").append(hire).append(' ');
            if (hire >= 2) {
                order.append(" ended(").append(9 - hire).append(",0)=").append(hire);
            }
        }
        edge("AN HOUR: 'for each hire, by numbers': ten in the same hour", ten.toString(),
                "pass(1)=0 pass(1)=10", order.toString(), "ended(7,0)=2 count(8)=10 count(14)=20");
    }

    private void theHourThen() {
        edge("AN HOUR: 'Then the hour of now is 1 more'", "pass(1)=0 count(0)=1 pass(1)=0 count(0)=2");
        edge("AN HOUR: 'with the wind w of the hour of now': not of the one behind it", OUT,
                "wind(0,0,5)=1 wind(1,1,6)=1 pass(1) spoolOf(0,1)=10 pass(1) spoolOf(0,1)=22");
        edge("AN HOUR: 'with the wind w of the hour of now': the hour 999", Script.hours(999), READY,
                "hire(0,1,1,0)=0 wind(999,999,6)=1 pass(1)=1 spoolOf(0,1)=6 count(0)=1000");
        edge("AN HOUR: a hire of 12 hours up to the hour 999", Script.hours(988), READY,
                "hire(0,1,12,0)=0 pass(11)=0 hireOf(0,3)=1 pass(1)=1 count(0)=1000 ended(0,2)=999",
                "ended(0,1)=0");
    }

    private void pass() {
        edge("promise 10: hours, '1 to 99': the least", "pass(1)=0 count(0)=1");
        edge("promise 10: hours, '1 to 99': the greatest", "pass(99)=0 count(0)=99");
        edge("promise 10: hours, '1 to 99': one below", "pass(0)=BAD pass(-1)=BAD count(0)=0");
        edge("promise 10: hours, '1 to 99': one above", "pass(100)=BAD count(0)=0");
        edge("promise 10: hours, the ends of int", "pass(MIN)=BAD pass(MAX)=BAD count(0)=0 count(16)=0");
        edge("promise 10: 'how many hires end in them': none", READY, "hire(0,1,3,0)=0 pass(2)=0");
        edge("promise 10: 'how many hires end in them': in the first of them", READY,
                "hire(0,1,1,0)=0 pass(5)=1");
        edge("promise 10: 'how many hires end in them': in the last of them", READY,
                "hire(0,1,5,0)=0 pass(5)=1");
        edge("promise 10: 'how many hires end in them': not those that ended ahead", READY,
                "hire(0,1,1,0)=0 pass(1)=1 hire(0,1,2,0)=1 back(1,0) pass(2)=0 hire(0,1,1,0)=2 pass(1)=1");
        edge("promise 10: 'how many hires end in them': in each way",
                "kite(0,12,1,1)=0 kite(0,6,1,1)=1 kite(0,12,9,1)=2 spool(20)=0 spool(20)=1 spool(20)=2",
                "hire(0,1,2,0)=0 hire(1,1,12,0)=1 hire(2,1,12,0)=2",
                "wind(2,2,7)=1 pass(99)=3 count(8)=1 count(9)=1 count(10)=1 ended(2,0)=0 ended(1,0)=1",
                "ended(0,0)=2 ended(0,2)=2");
        edge("promise 10: 'how many hires end in them': more than the eight that are told",
                Script.times(9, "kite(0,12,1,1) spool(20)"),
                "hire(0,1,1,0)=0 hire(1,1,1,0)=1 hire(2,1,1,0)=2 hire(3,1,1,0)=3 hire(4,1,1,0)=4",
                "hire(5,1,1,0)=5 hire(6,1,1,0)=6 hire(7,1,1,0)=7 hire(8,1,1,0)=8 pass(1)=9 ended(7,0)=1",
                "ended(0,0)=8");
        edge("promise 10: one act, however many hours", READY,
                "hire(0,1,5,0)=0 pass(50)=1 count(16)=4 undo()=3 count(0)=0 hireOf(0,3)=5 count(11)=35");
    }

    private void ended() {
        String one = READY + "hire(0,1,2,0)=0 pass(1) back(0,0) ";
        edge("promise 22: 'NONE if not so many ended': none", READY,
                "ended(0,0)=NONE ended(7,3)=NONE hire(0,1,2,0)=0 ended(0,0)=NONE");
        edge("promise 22: 'NONE if not so many ended': one", one,
                "ended(0,0)=0 ended(0,3)=1011 ended(1,0)=NONE");
        StringBuilder eight = new StringBuilder(READY);
        for (int hire = 0; hire < 8; hire++) {
            eight.append("hire(0,1,").append(1 + hire).append(",0)=").append(hire);
            eight.append(" back(").append(hire).append(",0) ");
        }
        edge("promise 22: 'the latest 8 hires that ended': seven", eight.toString(),
                "undo() ended(6,0)=0 ended(7,0)=NONE ended(0,0)=6");
        edge("promise 22: 'the latest 8 hires that ended': just eight", eight.toString(),
                "ended(7,0)=0 ended(7,3)=1004 ended(0,0)=7 ended(0,3)=1028 ended(8,0)=BAD");
        edge("promise 22: 'the latest 8 hires that ended': one more", eight.toString(),
                "pass(3) hire(0,1,2,0)=8 pass(2)=1",
                "ended(7,0)=1 ended(7,3)=1007 ended(1,0)=7 ended(0,0)=8 ended(0,1)=0 ended(0,2)=4",
                "ended(0,3)=1014 ended(8,0)=BAD");
        edge("promise 22: ago, one below and one above", one, "ended(-1,0)=BAD ended(8,0)=BAD");
        edge("promise 22: what, the first, the last and one more", one,
                "ended(0,0)=0 ended(0,3)=1011 ended(0,4)=BAD ended(0,-1)=BAD");
        edge("promise 22: arguments at the ends of the range of int", one,
                "ended(MIN,0)=BAD ended(MAX,0)=BAD ended(0,MIN)=BAD ended(0,MAX)=BAD");
        edge("promise 22: 'BAD_VALUE; NONE': the first one is told",
                "ended(0,4)=BAD ended(0,-1)=BAD ended(8,0)=BAD ended(-1,0)=BAD ended(7,4)=BAD",
                "ended(0,0)=NONE");
        edge("promise 22: 'the hour of now as it ended (ahead of its being 1 more)': when an hour passes",
                READY, "hire(0,1,1,0)=0 pass(1)=1 ended(0,2)=0 count(0)=1");
        edge("promise 22: 'the hour of now as it ended': when it is told to come back", one,
                "ended(0,2)=1 count(0)=1");
        edge("promise 22: 'the coins that it paid in all less those given back, and 1000': none in the end",
                READY, "hire(0,1,2,0)=0 set(0,4) pass(1)=1 ended(0,3)=1000");
        edge("promise 22: 'the coins .., and 1000': the most",
                "kite(0,12,9,99)=0 spool(60)=0 set(1,20) set(2,99) set(3,99) hire(0,1,12,63)=0 pass(1)=1",
                "ended(0,3)=2881 count(11)=1881");
        edge("promise 22: how it ended stays when the kite is hired again", one,
                "hire(0,1,1,0)=1 ended(0,0)=0 ended(0,3)=1011 set(2,9) set(3,9) ended(0,3)=1011");
    }

    private void snapsIn() {
        edge("promise 29: '1 if in the hour of now'", STRONG, "set(1,36) snapsIn(0)=1 pass(1)=1 count(10)=1");
        edge("promise 29: the wear would be one below the strength in the hour of now", STRONG,
                "set(1,37) snapsIn(0)=2 pass(1)=0 snapsIn(0)=1 pass(1)=1 count(10)=1");
        edge("promise 29: the wear that the spool has counts", STRONG,
                "snapsIn(0)=4 pass(1) snapsIn(0)=3 pass(1) snapsIn(0)=2 pass(1) snapsIn(0)=1");
        edge("promise 29: 'if it was out for ever': longer than its hours", READY,
                "hire(0,1,1,0)=0 snapsIn(0)=30");
        edge("promise 29: 'for too little .. wind': just the least brings wear, one below does not", OUT,
                "set(1,20) snapsIn(0)=3 wind(0,0,3)=1 snapsIn(0)=4 wind(2,2,0)=1 snapsIn(0)=5");
        edge("promise 29: 'for .. too much wind': just the greatest brings wear, one above does not", OUT,
                "set(1,24) snapsIn(0)=3 wind(0,1,6)=2 snapsIn(0)=2 wind(0,0,7)=1 snapsIn(0)=4");
        edge("promise 29: 'or by the red flag': one below it brings wear, just that does not", OUT,
                "set(1,24) wind(0,1,6)=2 set(0,7) snapsIn(0)=2 set(0,6) snapsIn(0)=5");
        edge("promise 29: 'it is never called down'", OUT,
                "set(1,20) wind(0,99,12)=100 snapsIn(0)=103 pass(1)=1 count(9)=1");
        edge("promise 29: 'NONE if not up to the hour 999': it snaps in it", Script.hours(988), STRONG,
                "wind(988,998,0)=11 set(1,36) snapsIn(0)=12");
        edge("promise 29: 'NONE if not up to the hour 999': it would snap behind it", Script.hours(988),
                STRONG, "wind(988,998,0)=11 set(1,37) snapsIn(0)=NONE");
        edge("promise 29: 'NONE if not up to the hour 999': the last hour is calm", Script.hours(999),
                "kite(4,6,9,1)=0 spool(9)=0 set(1,20) hire(0,1,1,0)=0 snapsIn(0)=1 wind(999,999,3)=1",
                "snapsIn(0)=NONE");
        edge("promise 29: 'NONE if not up to the hour 999': no wind at all", STRONG,
                "wind(0,999,0)=1000 snapsIn(0)=NONE");
        edge("promise 29: 'NONE if not up to the hour 999': the wear is enough, but it flies no more",
                Script.hours(997),
                "kite(4,6,9,1)=0 spool(9)=0 hire(0,1,3,0)=0 pass(1)=0 set(1,20) snapsIn(0)=1",
                "wind(998,998,3)=1 snapsIn(0)=2 wind(999,999,3)=1 snapsIn(0)=NONE pass(2)=1 count(10)=0");
        edge("promise 29: of its own kite and spool", "kite(0,12,1,1)=0 kite(0,3,9,1)=1 kite(0,12,4,1)=2",
                "spool(10)=0 spool(20)=1 spool(30)=2 hire(2,15,3,0)=0 hire(0,25,3,0)=1 hireOf(0,1)=1",
                "hireOf(1,1)=2 snapsIn(0)=8 snapsIn(1)=30 pass(3)=2 spoolOf(1,1)=48 spoolOf(2,1)=12",
                "hire(0,15,9,0)=2 hire(2,25,9,0)=3 snapsIn(2)=18 snapsIn(3)=7 snapsIn(0)=UNKNOWN");
        edge("promise 29: the hours from 0 to 999 are a thousand", STRONG,
                "wind(0,998,0)=999 set(1,36) snapsIn(0)=1000 wind(0,0,4)=1 snapsIn(0)=1");
        edge("promise 29: a strength that was made less: in the next hour flown", OUT,
                "pass(3)=0 spoolOf(0,1)=24 set(1,20) snapsIn(0)=1 wind(3,3,3)=1 snapsIn(0)=2");
        edge("promise 29: hire, one below, one that did not come, one that has ended", OUT,
                "snapsIn(-1)=UNKNOWN snapsIn(1)=UNKNOWN snapsIn(-5)=UNKNOWN back(0,0) snapsIn(0)=UNKNOWN");
        edge("promise 29: hire, the ends of int", OUT, "snapsIn(MIN)=UNKNOWN snapsIn(MAX)=UNKNOWN");
        edge("promise 29: 'UNKNOWN; NONE': the first one is told", OUT,
                "wind(0,999,0)=1000 snapsIn(0)=NONE snapsIn(1)=UNKNOWN");
    }

    private void ifPassed() {
        edge("promise 31: hours, '1 to 99': the least", OUT,
                "ifPassed(1,0)=0 ifPassed(1,3)=1 ifPassed(1,4)=100000");
        edge("promise 31: hours, '1 to 99': the greatest", OUT,
                "ifPassed(99,0)=1 ifPassed(99,3)=5 ifPassed(99,4)=100000");
        edge("promise 31: hours, '1 to 99': one below and one above", OUT,
                "ifPassed(0,0)=BAD ifPassed(-1,0)=BAD ifPassed(100,0)=BAD");
        edge("promise 31: what, the first, the last and one more", OUT,
                "ifPassed(5,0)=1 ifPassed(5,4)=100000 ifPassed(5,5)=BAD ifPassed(5,-1)=BAD");
        edge("promise 31: arguments at the ends of the range of int", OUT,
                "ifPassed(MIN,0)=BAD ifPassed(MAX,0)=BAD ifPassed(1,MIN)=BAD ifPassed(1,MAX)=BAD");
        edge("promise 31: '0 for hires that come back': one hour ahead, and just then", OUT,
                "ifPassed(4,0)=0 ifPassed(5,0)=1 ifPassed(6,0)=1");
        edge("promise 31: '1 for those called down': one hour ahead, and just then", OUT,
                "wind(2,2,7)=1 ifPassed(2,1)=0 ifPassed(3,1)=1 ifPassed(99,1)=1 ifPassed(99,0)=0",
                "ifPassed(99,4)=99970");
        edge("promise 31: '2 for those whose line snaps': one hour ahead, and just then", STRONG,
                "ifPassed(3,2)=0 ifPassed(4,2)=1 ifPassed(99,2)=1 ifPassed(99,0)=0 ifPassed(99,4)=100021");
        edge("promise 31: '3 for hours flown': calm ones are not", OUT,
                "wind(1,1,3)=1 ifPassed(1,3)=1 ifPassed(2,3)=1 ifPassed(3,3)=2 ifPassed(99,3)=4");
        edge("promise 31: '4 for the coins taken less those given back, and 100000': below it", OUT,
                "wind(0,4,3)=5 ifPassed(1,4)=99990 ifPassed(5,4)=99950 ifPassed(99,4)=99950");
        edge("promise 31: '4 for the coins ..': those that are paid already are not of the next hours", OUT,
                "count(11)=50 ifPassed(99,4)=100000 pass(1) ifPassed(99,4)=100000");
        edge("promise 31: what was ahead is not of the next hours", OUT,
                "pass(5)=1 ifPassed(99,0)=0 ifPassed(99,3)=0 hire(0,1,2,0)=1 ifPassed(99,0)=1",
                "ifPassed(99,3)=2 ifPassed(99,4)=100000");
        edge("promise 31: 'if nothing else is done': without hires", READY,
                "ifPassed(99,0)=0 ifPassed(99,1)=0 ifPassed(99,2)=0 ifPassed(99,3)=0 ifPassed(99,4)=100000");
        edge("promise 31: '(up to the hour 999)': more hours than are left", Script.hours(998), READY,
                "hire(0,1,2,0)=0 ifPassed(1,0)=0 ifPassed(2,0)=1 ifPassed(3,0)=1 ifPassed(99,0)=1",
                "ifPassed(99,3)=2");
        edge("promise 31: '(up to the hour 999)': none is left", Script.hours(1000), READY,
                "ifPassed(1,0)=0 ifPassed(99,3)=0 ifPassed(99,4)=100000 ifPassed(100,0)=BAD");
        edge("promise 31: nothing passes", OUT,
                "ifPassed(99,0)=1 ifPassed(99,0)=1 count(0)=0 hireOf(0,3)=5 count(14)=0 count(11)=50",
                "count(16)=3 spoolOf(0,1)=0");
    }
}
