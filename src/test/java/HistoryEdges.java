/** The section 'HISTORY' and promises 15 to 17: their boundary cases. */
final class HistoryEdges extends Edges {
    private static final String[] ACTS = {
        "wind(9,9,5)=1", "kite(1,2,3,4)=2", "spool(7)=2", "tails(4,2)=7", "text(w6x2;k0-0*1$1) tellAll()=2",
        "hire(1,1,1,0)=2", "back(1,1)=1010", "found(2)=5", "pass(3)=1", "set(2,9)=15", "restore()=2"};
    private static final String[] NAMES = {
        "wind", "kite", "spool", "tails", "tellAll", "hire", "back", "found", "pass", "set", "restore"};
    private static final String[] REFUSED = {
        "wind(9,9,4)=NONE", "wind(9,9,13)=BAD", "kite(2,1,3,4)=BAD", "spool(0)=BAD", "tails(6,2)=UNKNOWN",
        "tails(4,0)=BAD", "text(w) tellAll()=-101", "text(k2-1*1$1) tellAll()=BAD", "hire(2,1,1,0)=UNKNOWN",
        "hire(1,0,1,0)=BAD", "hire(0,1,1,0)=-11", "hire(1,60,1,0)=-14", "back(0,0)=UNKNOWN",
        "back(1,2)=BAD", "found(6)=UNKNOWN", "found(3)=NONE", "pass(0)=BAD", "set(5,0)=BAD",
        "set(2,15)=NONE"};
    private static final String[] ASKED = {
        "kiteOf(0,0)=1", "spoolOf(0,0)=40", "tailsOf(0,0)=4", "hireOf(1,0)=0", "ended(0,0)=0",
        "windOf(0)=4", "count(0)=2", "count(6)=2", "perHour()=26.5", "why(1,1,1,0)=0", "next(0,12)=2",
        "longest(1,1)=12", "snapsIn(1)=28", "flyable(2)=2", "ifPassed(99,4)=100000", "dearest(1)=1",
        "fault()=0", "type(w)=1", "clearText()=0", "keep()=2"};

    /** Hire 0 came back with the tail 2 missing, hire 1 is out for 3 hours; a snapshot; one state. */
    private static final String BUSY =
            " kite(0,12,1,9)=0 kite(0,12,1,9)=1 spool(40)=0 spool(50)=1 hire(0,9,3,4)=0 pass(2)=0"
            + " back(0,4)=1001 hire(0,9,3,1)=1 keep()=2 undo()=3 undo()=2 undo()=1 undo()=0 restore()=2"
            + " count(16)=1 ";

    HistoryEdges(Checks checks) {
        super(checks);
    }

    @Override
    void run() {
        fourStates();
        eachAct();
        notRecorded();
        undo();
        keep();
        restore();
        whatIsAState();
    }

    private void fourStates() {
        edge("HISTORY: none: 'NONE if the history is empty'", "undo()=NONE count(16)=0");
        edge("HISTORY: one state", "spool(1)=0 count(16)=1 undo()=0 count(5)=0 undo()=NONE");
        edge("HISTORY: 'at most 4 states': four", Script.times(4, "spool(1)"),
                "count(16)=4 undo()=3 undo()=2 undo()=1 undo()=0 count(5)=0 undo()=NONE");
        edge("HISTORY: 'when one more is recorded, the oldest one is dropped'", Script.times(5, "spool(1)"),
                "count(16)=4 undo()=3 count(5)=4 undo()=2 count(5)=3 undo()=1 count(5)=2 undo()=0 count(5)=1",
                "undo()=NONE count(5)=1");
        edge("HISTORY: 'when one more is recorded, the oldest one is dropped': many more",
                Script.times(10, "spool(1)"),
                "count(16)=4 undo()=3 undo()=2 undo()=1 undo()=0 count(5)=6 undo()=NONE");
        edge("HISTORY: 'undo() removes and restores the latest one'",
                "set(2,20) set(2,30) set(2,40) undo()=2 count(20)=30 undo()=1 count(20)=20 undo()=0",
                "count(20)=15");
        edge("HISTORY: an undo is not undone",
                "set(2,20) set(2,30) undo()=1 undo()=0 undo()=NONE count(20)=15");
        edge("HISTORY: an act behind an undo: what was undone is gone",
                "set(2,20) set(2,30) undo()=1 set(2,40)=20 count(16)=2 undo()=1 count(20)=20 undo()=0",
                "count(20)=15");
        edge("HISTORY: behind undo of all four there is room for four", Script.times(6, "spool(1)"),
                "undo() undo() undo() undo() count(5)=2", Script.times(5, "spool(1)"),
                "count(5)=7 undo()=3 undo()=2 undo()=1 undo()=0 count(5)=3 undo()=NONE");
        edge("HISTORY: behind one undo of four one more has room, and the next one drops the oldest",
                "set(2,1) set(2,2) set(2,3) set(2,4) undo()=3 set(2,5)=3 count(16)=4 set(2,6)=5 count(16)=4",
                "undo()=3 count(20)=5 undo()=2 count(20)=3 undo()=1 count(20)=2 undo()=0 count(20)=1",
                "undo()=NONE");
    }

    private void eachAct() {
        for (int act = 0; act < ACTS.length; act++) {
            edge("HISTORY: 'Each call .. that is described as an act .. records the state': " + NAMES[act],
                    BUSY, ACTS[act], "count(16)=2 undo()=1 count(16)=1");
            edge("HISTORY: an undo behind each kind of act: " + NAMES[act], BUSY, "windOf(9)=4", ACTS[act],
                    "undo()=1",
                    "windOf(9)=4 windOf(2)=4 windOf(3)=4 count(0)=2 count(1)=2 count(2)=1 count(3)=1",
                    "count(5)=2 count(6)=2 count(7)=1 count(8)=1",
                    "count(11)=53 count(12)=90 count(14)=2 count(20)=15 tailsOf(4,0)=5 tailsOf(2,0)=4",
                    "tailsOf(2,2)=1 hireOf(1,3)=3 ended(0,0)=0 ended(1,0)=NONE");
        }
        edge("HISTORY: an undo behind a hire that was called down", READY,
                "hire(0,1,3,1)=0 set(0,4) pass(1)=1 undo()=3 hireOf(0,5)=21 hireOf(0,3)=3 ended(0,0)=NONE",
                "count(9)=0 kiteOf(0,0)=1 tailsOf(0,1)=1");
        edge("HISTORY: an undo behind a line that snapped",
                "kite(0,12,9,7)=0 spool(50)=0 hire(0,40,12,1)=0 pass(3)=0 pass(1)=1 kiteOf(0,0)=2 undo()=3",
                "kiteOf(0,0)=1 spoolOf(0,0)=50 spoolOf(0,1)=108 spoolOf(0,3)=0 tailsOf(0,2)=0 count(10)=0",
                "count(11)=84 hireOf(0,3)=9");
    }

    private void notRecorded() {
        for (String call : REFUSED) {
            edge("HISTORY: '.. and returns no error and not NONE': not recorded: " + call, BUSY, call,
                    "count(16)=1 undo()=0 count(0)=0 count(6)=0 undo()=NONE");
        }
        edge("HISTORY: '.. and returns no error': restore without a snapshot is not recorded",
                "restore()=NONE count(16)=0");
        edge("HISTORY: '.. and returns no error': FULL is not recorded", Script.times(10, "spool(1)"),
                "undo() spool(1) undo() count(16)=3 spool(1)=9 spool(1)=FULL undo()=3 count(5)=9");
        edge("HISTORY: '.. and returns no error': pass behind the hour 1000 is not recorded",
                Script.hours(1000), "undo()=3 pass(11)=FULL count(16)=3");
        for (String call : ASKED) {
            edge("HISTORY: what is not described as an act is not recorded: " + call, BUSY, call,
                    "count(16)=1 undo()=0 count(0)=0 count(6)=0");
        }
    }

    private void undo() {
        edge("promise 15: 'Returns the number of states that are left': 3 to 0", Script.times(4, "spool(1)"),
                "undo()=3 undo()=2 undo()=1 undo()=0");
        edge("promise 15: 'NONE if the history is empty': behind the last one",
                "spool(1) undo()=0 undo()=NONE undo()=NONE count(5)=0");
        edge("promise 15: a number that is undone comes again",
                "kite(0,12,1,1)=0 undo()=0 kite(1,12,1,1)=0 kiteOf(0,1)=1 spool(9)=0 undo() spool(8)=0",
                "spoolOf(0,0)=8 hire(0,1,1,0)=0 undo() hire(0,2,1,0)=0 hireOf(0,2)=2");
        edge("promise 15: a kite that is undone leaves nothing",
                "kite(0,12,1,9)=0 spool(40)=0 hire(0,9,3,0)=0 pass(1)=0 undo() undo() undo() undo()=0",
                "kite(1,2,3,4)=0 kiteOf(0,0)=0 kiteOf(0,5)=0 kiteOf(0,6)=0 kiteOf(0,7)=NONE");
        edge("promise 15: a spool that is undone leaves nothing",
                "spool(40)=0 kite(0,12,1,9)=0 hire(0,9,3,0)=0 pass(1)=0 spoolOf(0,1)=4 undo() undo() undo()",
                "undo()=0 spool(30)=0 spoolOf(0,0)=30 spoolOf(0,1)=0 spoolOf(0,2)=NONE spoolOf(0,3)=0");
    }

    private void keep() {
        edge("promise 16: 'Returns the hour of now': the first and the last", "keep()=0", Script.hours(1000),
                "keep()=1000");
        edge("promise 16: 'in place of the one that was'",
                "keep()=0 set(2,20) keep()=0 set(2,30) restore()=0 count(20)=20");
        edge("promise 16: a keep is no act",
                "keep()=0 count(16)=0 undo()=NONE spool(1)=0 keep()=0 count(16)=1 undo()=0 count(5)=0");
        edge("promise 16: what comes behind it is not of it", READY,
                "keep()=0 hire(0,1,3,63)=0 pass(1) wind(5,5,9)=1 tails(0,1) restore()=0 count(6)=0",
                "count(0)=0 windOf(5)=4 tailsOf(0,0)=5 kiteOf(0,0)=0 spoolOf(0,1)=0 hire(0,1,3,0)=0");
    }

    private void restore() {
        edge("promise 17: 'NONE if there is no snapshot'",
                "restore()=NONE spool(1)=0 restore()=NONE count(5)=1 count(16)=1");
        edge("HISTORY: 'There is one snapshot, empty at first': undo makes none",
                "spool(1)=0 undo()=0 restore()=NONE");
        edge("promise 17: 'Returns the hour of now then': the earlier one",
                "pass(5) keep()=5 pass(7) restore()=5 count(0)=5");
        edge("promise 17: 'Returns the hour of now then': the later one",
                "pass(5) keep()=5 undo()=0 count(0)=0 restore()=5 count(0)=5");
        edge("promise 17: 'the snapshot, which stays': three times",
                "set(2,20) keep()=0 set(2,30) restore()=0 count(20)=20 set(2,40) restore()=0 count(20)=20",
                "set(2,50) restore()=0 count(20)=20");
        edge("promise 17: 'the snapshot, which stays': what is done behind restore is not of it", READY,
                "keep()=0 restore()=0 hire(0,1,3,0)=0 restore()=0 count(6)=0 kiteOf(0,0)=0 hire(0,1,2,0)=0",
                "pass(2)=1 restore()=0 count(0)=0 ended(0,0)=NONE");
        edge("promise 17: 'This is an act': it is undone",
                "set(2,20) keep()=0 set(2,30) restore()=0 count(16)=3 undo()=2 count(20)=30");
        edge("promise 17: 'This is an act': of the state that is already",
                "keep()=0 restore()=0 count(16)=1 restore()=0 count(16)=2 undo()=1 undo()=0 undo()=NONE");
        edge("promise 17: 'This is an act': it drops the oldest of four", "keep()=0",
                Script.times(4, "spool(1)"),
                "restore()=0 count(16)=4 count(5)=0 undo()=3 count(5)=4 undo()=2 count(5)=3 undo()=1",
                "count(5)=2 undo()=0 count(5)=1 undo()=NONE");
    }

    private void whatIsAState() {
        edge("HISTORY: 'A state is everything but the text': undo leaves it",
                "text(w5x1) tellAll()=1 clearText()=4 type(k)=1 undo()=0 count(17)=1 fault()=1");
        edge("HISTORY: 'A state is everything but the text': restore leaves it",
                "text(w5x1) keep()=0 clearText()=4 type(k)=1 restore()=0 count(17)=1 fault()=1");
        edge("HISTORY: 'A state is everything but .. the history': restore leaves it, and adds to it",
                "keep()=0 spool(1) spool(1) restore()=0 count(16)=3 undo()=2 count(5)=2 undo()=1 count(5)=1");
        edge("HISTORY: 'A state is everything but .. the snapshot': undo leaves it",
                "spool(1)=0 keep()=0 undo()=0 count(5)=0 restore()=0 count(5)=1");
        edge("HISTORY: 'A state is everything but .. the snapshot': undo of the act behind keep leaves it",
                "keep()=0 spool(1)=0 undo()=0 spool(2)=0 restore()=0 count(5)=0");
        edge("HISTORY: 'A state is everything': winds, settings, tails and the hour",
                "keep()=0 wind(50,60,9)=11 set(0,3) set(1,30) set(2,1) set(3,1) set(4,1) tails(5,3) pass(9)",
                "restore()=0 windOf(50)=4 windOf(60)=4 count(18)=8 count(19)=120 count(20)=15 count(21)=3",
                "count(22)=5 tailsOf(5,0)=5 count(0)=0");
        StringBuilder eight = new StringBuilder(READY);
        for (int hire = 0; hire < 8; hire++) {
            eight.append("hire(0,1,1,0)=").append(hire).append(" pass(1)=1 ");
        }
        edge("HISTORY: 'A state is everything': the eighth of the hires that ended is told again",
                eight.toString(), "hire(0,1,2,0)=8 back(8,0) ended(7,0)=1 undo()=3 ended(7,0)=0 ended(0,0)=7",
                "ended(7,2)=0 ended(0,2)=7");
        edge("HISTORY: 'A state is everything': how hires ended in the snapshot, though others ended since",
                READY, "hire(0,1,2,0)=0 back(0,0) keep()=0 undo()=3 pass(2)=1 ended(0,2)=1 ended(0,3)=1014",
                "restore()=0 ended(0,2)=0 ended(0,3)=1007");
        edge("HISTORY: 'A state is everything': how hires ended", READY,
                "hire(0,1,1,0)=0 pass(1)=1 keep()=1 hire(0,1,2,0)=1 back(1,0) ended(0,0)=1 ended(1,0)=0",
                "restore()=1 ended(0,0)=0 ended(1,0)=NONE count(8)=1 count(6)=1 perHour()=7");
    }
}
