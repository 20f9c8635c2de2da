/** The section 'ERRORS': a call that returns an error or NONE changes nothing, one test for each kind. */
final class ErrorEdges extends Edges {
    /** Kite 0 is out with hire 1, kite 1 is in, kite 2 is lost; hire 0 snapped, and lost the tail 4. */
    private static final String BUSY =
            " kite(0,12,1,9)=0 kite(4,12,1,8)=1 kite(0,12,9,7)=2 spool(40)=0 spool(50)=1 set(1,20)=120"
            + " hire(2,30,2,16)=0 pass(1)=1 set(1,999)=20 hire(0,40,5,3)=1 pass(1)=0 keep()=2"
            + " text(w5x1;k3-3*1$1) ";

    /** All that BUSY has come to, told by hand. */
    private static final String LOOK =
            " count(0)=2 count(1)=3 count(2)=1 count(3)=1 count(4)=1 count(5)=2 count(6)=2 count(7)=1"
            + " count(8)=0 count(9)=0 count(10)=1 count(11)=77 count(12)=60 count(13)=30 count(14)=2"
            + " count(15)=0 count(16)=4 count(17)=13 count(18)=8 count(19)=999 count(20)=15 count(21)=3"
            + " count(22)=5 perHour()=38.5 kiteOf(0,0)=1 kiteOf(0,5)=1 kiteOf(0,6)=1 kiteOf(0,7)=1"
            + " kiteOf(1,0)=0 kiteOf(1,6)=0 kiteOf(1,7)=NONE kiteOf(2,0)=2 kiteOf(2,5)=1 kiteOf(2,6)=1"
            + " kiteOf(2,7)=NONE kiteOf(3,0)=UNKNOWN spoolOf(0,0)=10 spoolOf(0,1)=0 spoolOf(0,2)=NONE"
            + " spoolOf(0,3)=30 spoolOf(1,0)=50 spoolOf(1,1)=4 spoolOf(1,2)=1 spoolOf(1,3)=0"
            + " tailsOf(0,0)=4 tailsOf(0,1)=1 tailsOf(1,1)=1 tailsOf(2,0)=5 tailsOf(4,0)=4 tailsOf(4,2)=1"
            + " hireOf(1,0)=0 hireOf(1,1)=1 hireOf(1,2)=40 hireOf(1,3)=4 hireOf(1,4)=3 hireOf(1,5)=45"
            + " ended(0,0)=0 ended(0,1)=2 ended(0,2)=0 ended(0,3)=1032 ended(1,0)=NONE windOf(0)=4"
            + " windOf(2)=4 windOf(999)=4 fault()=NONE ";

    ErrorEdges(Checks checks) {
        super(checks);
    }

    @Override
    void run() {
        acts();
        theOthers();
        questions();
        edge("ERRORS: many errors, one behind the other, change nothing", BUSY,
                "wind(1,2,5)=BAD kite(0,12,1,0)=BAD spool(301)=BAD tails(0,21)=BAD hire(1,6,1,0)=-14",
                "back(0,0)=UNKNOWN back(1,4)=BAD",
                "found(0)=NONE pass(100)=BAD set(4,51)=BAD kiteOf(3,0)=UNKNOWN hireOf(1,6)=BAD",
                "snapsIn(0)=UNKNOWN dearest(6)=NONE", LOOK);
    }

    private void unchanged(String call, String due) {
        edge("ERRORS: 'A call that returns an error or NONE changes nothing': " + call + " " + due,
                BUSY, call + "=" + due, LOOK, call + "=" + due);
    }

    private void acts() {
        unchanged("wind(1,2,5)", "BAD");
        unchanged("wind(2,999,4)", "NONE");
        unchanged("kite(5,4,1,1)", "BAD");
        unchanged("spool(0)", "BAD");
        unchanged("tails(6,1)", "UNKNOWN");
        unchanged("tails(0,21)", "BAD");
        unchanged("hire(3,1,1,0)", "UNKNOWN");
        unchanged("hire(1,1,13,0)", "BAD");
        unchanged("hire(0,1,1,0)", "-11");
        unchanged("hire(2,1,1,0)", "-11");
        unchanged("hire(1,6,1,0)", "-14");
        unchanged("back(0,0)", "UNKNOWN");
        unchanged("back(2,0)", "UNKNOWN");
        unchanged("back(1,4)", "BAD");
        unchanged("back(1,64)", "BAD");
        unchanged("found(6)", "UNKNOWN");
        unchanged("found(0)", "NONE");
        unchanged("pass(0)", "BAD");
        unchanged("pass(100)", "BAD");
        unchanged("set(5,1)", "BAD");
        unchanged("set(0,14)", "BAD");
        unchanged("set(0,8)", "NONE");
    }

    /** Those that BUSY has no room for. */
    private void theOthers() {
        edge("ERRORS: 'A call that returns an error or NONE changes nothing': kite FULL",
                Script.times(16, "kite(0,12,1,1)"),
                "kite(1,2,3,4)=FULL count(1)=16 kiteOf(15,1)=0 count(16)=4 flyable(0)=65535");
        edge("ERRORS: 'A call that returns an error or NONE changes nothing': spool FULL",
                Script.times(10, "spool(9)"),
                "spool(8)=FULL count(5)=10 spoolOf(9,0)=9 count(12)=90 count(16)=4");
        edge("ERRORS: 'A call that returns an error or NONE changes nothing': tails FULL",
                Script.times(4, "tails(0,20)"), "tails(0,15)=FULL tailsOf(0,0)=85 count(16)=4");
        edge("ERRORS: 'A call that returns an error or NONE changes nothing': pass FULL", Script.hours(990),
                READY, "hire(0,1,5,0)=0 pass(11)=FULL count(0)=990 hireOf(0,3)=5 count(14)=0 count(7)=1");
        edge("ERRORS: 'A call that returns an error or NONE changes nothing': tellAll", BUSY,
                "text(w5x1;k3-2*1$1) tellAll()=BAD text(w5x1;k3-3*1$1)", LOOK);
        edge("ERRORS: 'A call that returns an error or NONE changes nothing': tellAll with a fault", BUSY,
                "text(w5x1;k3-3*1$0) tellAll()=-112 text(w5x1;k3-3*1$1)", LOOK);
        edge("ERRORS: 'A call that returns an error or NONE changes nothing': tellAll FULL",
                Script.times(15, "kite(0,12,1,1)"),
                "text(w5x1;k3-3*1$1;k3-3*1$1) tellAll()=FULL count(1)=15 windOf(0)=4 count(16)=4",
                "count(17)=22");
        edge("ERRORS: 'A call that returns an error or NONE changes nothing': type FULL",
                Script.times(60, "type(w)"), "type(k)=FULL count(17)=60 fault()=1");
        edge("ERRORS: 'A call that returns an error or NONE changes nothing': undo NONE",
                "text(w5x1) undo()=NONE count(17)=4 fault()=NONE count(16)=0 count(0)=0");
        edge("ERRORS: 'A call that returns an error or NONE changes nothing': restore NONE",
                "text(w5x1) tellAll()=1 restore()=NONE count(16)=1 windOf(0)=5");
        edge("ERRORS: 'A call that returns an error or NONE changes nothing': hire refused for the wind",
                BUSY,
                "undo() wind(1,1,8)=1 hire(1,1,1,0)=-12 count(6)=2 count(16)=4 count(11)=77 kiteOf(1,0)=0",
                "kiteOf(1,6)=0 wind(1,1,3)=1 hire(1,1,1,0)=-13 count(6)=2 kiteOf(1,0)=0");
    }

    private void questions() {
        unchanged("kiteOf(3,0)", "UNKNOWN");
        unchanged("kiteOf(0,8)", "BAD");
        unchanged("spoolOf(2,0)", "UNKNOWN");
        unchanged("spoolOf(0,4)", "BAD");
        unchanged("tailsOf(6,0)", "UNKNOWN");
        unchanged("tailsOf(0,3)", "BAD");
        unchanged("hireOf(0,0)", "UNKNOWN");
        unchanged("hireOf(1,6)", "BAD");
        unchanged("ended(8,0)", "BAD");
        unchanged("ended(1,0)", "NONE");
        unchanged("windOf(1000)", "UNKNOWN");
        unchanged("count(23)", "BAD");
        unchanged("why(3,1,1,0)", "UNKNOWN");
        unchanged("why(0,1,13,0)", "BAD");
        unchanged("next(3,1)", "UNKNOWN");
        unchanged("next(0,13)", "BAD");
        unchanged("longest(3,1)", "UNKNOWN");
        unchanged("longest(0,0)", "BAD");
        unchanged("longest(0,1)", "NONE");
        unchanged("snapsIn(0)", "UNKNOWN");
        unchanged("flyable(1000)", "UNKNOWN");
        unchanged("ifPassed(0,0)", "BAD");
        unchanged("ifPassed(1,5)", "BAD");
        unchanged("dearest(0)", "BAD");
        unchanged("dearest(6)", "NONE");
    }
}
