/** The section 'KITES, SPOOLS, TAILS' and promises 3, 4, 5, 9, 18, 19, 20 and 30: their boundary cases. */
final class StockEdges extends Edges {
    private static final String FIFTEEN_KITES = Script.times(15, "kite(0,12,1,1)");
    private static final String NINE_SPOOLS = Script.times(9, "spool(20)");

    /** A kite that is lost in the hour 0, with 30 of 50 metres and the tails 0 and 5. */
    private static final String LOSS = " kite(0,12,9,7)=0 spool(50)=0 set(1,20)=120 hire(0,30,2,33)=0"
            + " pass(1)=1 count(10)=1 ";

    StockEdges(Checks checks) {
        super(checks);
    }

    @Override
    void run() {
        kitesThatCome();
        kite();
        kiteOf();
        spoolsThatCome();
        spool();
        spoolOf();
        tails();
        tailsFull();
        found();
        tailsOf();
        flyable();
    }

    private void kitesThatCome() {
        edge("KITES: 'at most 16 kites ever, numbered from 0': none yet",
                "kiteOf(0,0)=UNKNOWN kiteOf(-1,0)=UNKNOWN why(0,1,1,0)=UNKNOWN hire(0,1,1,0)=UNKNOWN",
                "next(0,1)=UNKNOWN longest(0,1)=UNKNOWN");
        edge("KITES: 'numbered from 0': the first and the second",
                "kite(1,2,3,4)=0 kiteOf(0,1)=1 kiteOf(1,1)=UNKNOWN kite(5,6,7,8)=1 kiteOf(1,1)=5",
                "kiteOf(2,1)=UNKNOWN");
        edge("KITES: 'at most 16 kites ever': the last one that has room",
                FIFTEEN_KITES, "count(1)=15 kiteOf(15,0)=UNKNOWN kite(1,2,3,4)=15 count(1)=16",
                "kiteOf(15,1)=1 kiteOf(15,2)=2 kiteOf(15,3)=3 kiteOf(15,4)=4 kiteOf(16,0)=UNKNOWN");
        edge("KITES: 'at most 16 kites ever': one more",
                FIFTEEN_KITES, "kite(0,12,1,1)=15 kite(0,12,1,1)=FULL count(1)=16 count(16)=4");
        edge("KITES: 'at most 16 kites ever': a lost one makes no room", LOSS, FIFTEEN_KITES,
                "count(1)=16 count(4)=1 kite(0,12,1,1)=FULL text(k0-0*1$1) tellAll()=FULL");
        edge("KITES: 'at most 16 kites ever': an undone one makes room", FIFTEEN_KITES,
                "kite(0,12,1,1)=15 kite(0,12,1,1)=FULL undo()=3 kite(0,12,1,1)=15 kite(0,12,1,1)=FULL");
        edge("KITES: 'A kite is in (0), out (1) or lost (2)'",
                "kite(0,12,9,7)=0 spool(50)=0 kiteOf(0,0)=0 hire(0,1,12,0)=0 kiteOf(0,0)=1 pass(3)=0",
                "kiteOf(0,0)=1", "pass(1)=1 kiteOf(0,0)=2 pass(9) kiteOf(0,0)=2");
        edge("KITES: in again, not lost, when it was called down or came back", READY,
                "hire(0,1,1,0)=0 pass(1)=1 kiteOf(0,0)=0 hire(0,1,1,0)=1 set(0,1) pass(1)=1 kiteOf(0,0)=0");
    }

    private void kite() {
        edge("promise 3: least, '0 to 12': the least", "kite(0,12,1,1)=0 kiteOf(0,1)=0");
        edge("promise 3: least, '0 to 12': the greatest", "kite(12,12,1,1)=0 kiteOf(0,1)=12");
        edge("promise 3: least, '0 to 12': one below", "kite(-1,12,1,1)=BAD");
        edge("promise 3: least, '0 to 12': one above", "kite(13,13,1,1)=BAD kite(13,12,1,1)=BAD");
        edge("promise 3: most, 'least to 12': the least",
                "kite(5,5,1,1)=0 kiteOf(0,2)=5 kite(0,0,1,1)=1 kiteOf(1,2)=0");
        edge("promise 3: most, 'least to 12': the greatest", "kite(5,12,1,1)=0 kiteOf(0,2)=12");
        edge("promise 3: most, 'least to 12': one below",
                "kite(5,4,1,1)=BAD kite(0,-1,1,1)=BAD kite(12,11,1,1)=BAD");
        edge("promise 3: most, 'least to 12': one above", "kite(5,13,1,1)=BAD");
        edge("promise 3: pull, '1 to 9': the least and the greatest",
                "kite(0,12,1,1)=0 kite(0,12,9,1)=1 kiteOf(0,3)=1 kiteOf(1,3)=9");
        edge("promise 3: pull, '1 to 9': one below", "kite(0,12,0,1)=BAD");
        edge("promise 3: pull, '1 to 9': one above", "kite(0,12,10,1)=BAD");
        edge("promise 3: price, '1 to 99': the least and the greatest",
                "kite(0,12,1,1)=0 kite(0,12,1,99)=1 kiteOf(0,4)=1 kiteOf(1,4)=99");
        edge("promise 3: price, '1 to 99': one below", "kite(0,12,1,0)=BAD");
        edge("promise 3: price, '1 to 99': one above", "kite(0,12,1,100)=BAD");
        edge("promise 3: arguments at the ends of the range of int",
                "kite(MIN,12,1,1)=BAD kite(MAX,12,1,1)=BAD kite(0,MIN,1,1)=BAD kite(0,MAX,1,1)=BAD",
                "kite(MAX,MAX,1,1)=BAD kite(MIN,MIN,1,1)=BAD kite(0,12,MIN,1)=BAD kite(0,12,MAX,1)=BAD",
                "kite(0,12,1,MIN)=BAD kite(0,12,1,MAX)=BAD count(1)=0 count(16)=0");
        edge("promise 3: 'BAD_VALUE; FULL': the first one is told",
                FIFTEEN_KITES, "kite(0,12,1,1)=15 kite(0,13,1,1)=BAD kite(0,12,0,1)=BAD kite(0,12,1,100)=BAD",
                "kite(5,4,1,1)=BAD kite(-1,4,1,1)=BAD");
    }

    private void kiteOf() {
        edge("promise 18: kite, the first, the last and one more",
                Script.times(15, "kite(1,2,3,4)"), "kite(5,6,7,8)=15 kiteOf(0,1)=1 kiteOf(15,1)=5",
                "kiteOf(16,1)=UNKNOWN kiteOf(-1,1)=UNKNOWN kiteOf(MIN,1)=UNKNOWN kiteOf(MAX,1)=UNKNOWN");
        edge("promise 18: what, the first, the last and one more",
                "kite(1,2,3,4)=0 kiteOf(0,0)=0 kiteOf(0,7)=NONE kiteOf(0,8)=BAD kiteOf(0,-1)=BAD",
                "kiteOf(0,MIN)=BAD kiteOf(0,MAX)=BAD");
        edge("promise 18: 'UNKNOWN; BAD_VALUE': the first one is told",
                "kite(1,2,3,4)=0 kiteOf(1,8)=UNKNOWN kiteOf(-1,-1)=UNKNOWN");
        edge("promise 18: '1 and 2 for its least and greatest wind, 3 for its pull, 4 for its price'",
                "kite(3,11,5,42)=0 kiteOf(0,1)=3 kiteOf(0,2)=11 kiteOf(0,3)=5 kiteOf(0,4)=42");
        edge("promise 18: '5 for hours that it flew so far', a calm hour counts not",
                "kite(4,12,1,1)=0 spool(50)=0 hire(0,1,3,0)=0 kiteOf(0,5)=0 wind(1,1,3)=1 pass(1)",
                "kiteOf(0,5)=1",
                "pass(1) kiteOf(0,5)=1 pass(1)=1 kiteOf(0,5)=2 hire(0,1,1,0)=1 pass(1)=1 kiteOf(0,5)=3");
        edge("promise 18: '5 for hours that it flew so far', that in which the line snaps counts", LOSS,
                "kiteOf(0,5)=1");
        edge("promise 18: '5 for hours that it flew so far', that in which it is called down counts not",
                READY, "hire(0,1,3,0)=0 set(0,4) pass(1)=1 kiteOf(0,5)=0");
        edge("promise 18: '6 for its hires so far'",
                READY, "kite(0,12,1,1)=1 kiteOf(0,6)=0 hire(0,1,1,0)=0 kiteOf(0,6)=1 kiteOf(1,6)=0 back(0,0)",
                "hire(1,1,1,0)=1 hire(0,1,1,0)=-14 back(1,0) hire(0,1,1,0)=2 kiteOf(0,6)=2 kiteOf(1,6)=1");
        edge("promise 18: '7 for the hire that it is out with (NONE without one)'",
                READY, "kite(0,12,1,1)=1 kiteOf(0,7)=NONE hire(1,1,1,0)=0 back(0,0) hire(0,1,1,0)=1",
                "kiteOf(0,7)=1 kiteOf(1,7)=NONE pass(1)=1 kiteOf(0,7)=NONE");
        edge("promise 18: '7 ..', the hire 0 is one too", READY,
                "hire(0,1,2,0)=0 kiteOf(0,7)=0 pass(1)=0 kiteOf(0,7)=0");
        edge("promise 18: '7 ..', a lost kite is out with none", LOSS, "kiteOf(0,7)=NONE");
        edge("promise 18: '7 ..', a kite that was called down is out with none",
                READY, "hire(0,1,3,0)=0 set(0,4) pass(1)=1 kiteOf(0,7)=NONE");
    }

    private void spoolsThatCome() {
        edge("SPOOLS: 'at most 10 spools ever, numbered from 0': none yet",
                "kite(0,12,1,1)=0 spoolOf(0,0)=UNKNOWN spoolOf(-1,0)=UNKNOWN why(0,1,1,0)=4",
                "hire(0,1,1,0)=-14", "longest(0,1)=NONE dearest(1)=NONE next(0,1)=0");
        edge("SPOOLS: 'numbered from 0': the first and the second",
                "spool(7)=0 spoolOf(0,0)=7 spoolOf(1,0)=UNKNOWN spool(8)=1 spoolOf(1,0)=8",
                "spoolOf(2,0)=UNKNOWN");
        edge("SPOOLS: 'at most 10 spools ever': the last one that has room",
                NINE_SPOOLS, "count(5)=9 spoolOf(9,0)=UNKNOWN spool(33)=9 count(5)=10 spoolOf(9,0)=33",
                "spoolOf(10,0)=UNKNOWN kite(0,12,1,1)=0 hire(0,28,1,0)=0 hireOf(0,1)=9");
        edge("SPOOLS: 'at most 10 spools ever': one more",
                NINE_SPOOLS, "spool(33)=9 spool(33)=FULL count(5)=10 count(12)=213 count(16)=4");
        edge("SPOOLS: 'at most 10 spools ever': an empty one makes no room",
                "kite(0,12,9,1)=0 spool(5)=0 set(4,0) set(1,20) hire(0,5,1,0)=0 pass(1)=1 spoolOf(0,0)=0",
                NINE_SPOOLS, "count(5)=10 spool(1)=FULL");
        edge("SPOOLS: 'a wear (0 at first)'",
                "spool(7)=0 spoolOf(0,1)=0 spool(300)=1 spoolOf(1,1)=0 spoolOf(1,3)=0");
        edge("SPOOLS: 'A spool is in, or out with a hire'", READY,
                "kite(0,12,1,1)=1 spoolOf(0,2)=NONE hire(0,1,2,0)=0 spoolOf(0,2)=0 why(1,1,1,0)=4 pass(2)=1",
                "spoolOf(0,2)=NONE why(1,1,1,0)=0 hire(1,1,1,0)=1 spoolOf(0,2)=1");
        edge("SPOOLS: 'metres of line (0 to 300)': all of it is lost, and no hire takes it",
                "kite(0,12,9,1)=0 kite(0,12,9,1)=1 spool(300)=0 set(4,0) set(1,20) hire(0,300,1,0)=0",
                "pass(1)=1", "spoolOf(0,0)=0 spoolOf(0,3)=300 why(1,1,1,0)=4 count(12)=0 count(13)=300");
    }

    private void spool() {
        edge("promise 4: metres, '1 to 300': the least", "spool(1)=0 spoolOf(0,0)=1");
        edge("promise 4: metres, '1 to 300': the greatest", "spool(300)=0 spoolOf(0,0)=300");
        edge("promise 4: metres, '1 to 300': one below", "spool(0)=BAD spool(-1)=BAD count(5)=0");
        edge("promise 4: metres, '1 to 300': one above", "spool(301)=BAD count(5)=0");
        edge("promise 4: arguments at the ends of the range of int",
                "spool(MIN)=BAD spool(MAX)=BAD count(16)=0");
        edge("promise 4: 'BAD_VALUE; FULL': the first one is told",
                NINE_SPOOLS, "spool(1)=9 spool(0)=BAD spool(301)=BAD spool(1)=FULL");
    }

    private void spoolOf() {
        edge("promise 19: spool, the first, the last and one more", NINE_SPOOLS,
                "spool(7)=9 spoolOf(0,0)=20 spoolOf(9,0)=7 spoolOf(10,0)=UNKNOWN spoolOf(-1,0)=UNKNOWN",
                "spoolOf(MIN,0)=UNKNOWN spoolOf(MAX,0)=UNKNOWN");
        edge("promise 19: what, the first, the last and one more",
                "spool(7)=0 spoolOf(0,0)=7 spoolOf(0,3)=0 spoolOf(0,4)=BAD spoolOf(0,-1)=BAD",
                "spoolOf(0,MIN)=BAD spoolOf(0,MAX)=BAD");
        edge("promise 19: 'UNKNOWN; BAD_VALUE': the first one is told",
                "spool(7)=0 spoolOf(1,4)=UNKNOWN spoolOf(-1,-1)=UNKNOWN");
        edge("promise 19: '1 for its wear', it stays when a hire ends", READY,
                "hire(0,1,2,0)=0 pass(1) spoolOf(0,1)=4 pass(1)=1 spoolOf(0,1)=8 hire(0,1,2,0)=1",
                "spoolOf(0,1)=8", "pass(1) spoolOf(0,1)=12 back(1,0) spoolOf(0,1)=12");
        edge("promise 19: '1 for its wear', 0 behind a snap", LOSS, "spoolOf(0,1)=0");
        edge("promise 19: '2 for the hire that it is out with (NONE without one)'",
                "spool(50)=0 spool(40)=1 kite(0,12,1,1)=0 spoolOf(1,2)=NONE hire(0,1,1,0)=0 spoolOf(1,2)=0",
                "spoolOf(0,2)=NONE",
                "back(0,0) spoolOf(1,2)=NONE hire(0,40,2,0)=1 spoolOf(0,2)=1 set(0,1) pass(1)=1",
                "spoolOf(0,2)=NONE");
        edge("promise 19: '2 ..', in again behind a snap", LOSS, "spoolOf(0,2)=NONE");
        edge("promise 19: '3 for metres of it that are lost so far', twice", LOSS,
                "spoolOf(0,0)=20 spoolOf(0,3)=30 kite(0,12,9,1)=1 hire(1,15,1,0)=1 pass(1)=1 spoolOf(0,0)=5",
                "spoolOf(0,3)=45 count(12)=5 count(13)=45");
        edge("promise 19: '3 ..', only of the spool that lost them",
                "spool(90)=0", "kite(0,12,9,7)=0 spool(50)=1 set(1,20) hire(0,30,1,0)=0 pass(1)=1",
                "spoolOf(0,0)=90 spoolOf(0,3)=0 spoolOf(1,0)=20 spoolOf(1,3)=30");
    }

    private void tails() {
        StringBuilder first = new StringBuilder();
        for (int colour = 0; colour < 6; colour++) {
            first.append("tailsOf(").append(colour).append(",0)=5 tailsOf(").append(colour)
                    .append(",1)=0 tailsOf(").append(colour).append(",2)=0 ");
        }
        edge("TAILS: 'some are in (5 at first), some are out'", first.toString());
        edge("TAILS: '6 colours, 0 to 5': the first", "tails(0,1)=6 tailsOf(0,0)=6 tailsOf(1,0)=5");
        edge("TAILS: '6 colours, 0 to 5': the last", "tails(5,1)=6 tailsOf(5,0)=6 tailsOf(4,0)=5");
        edge("TAILS: '6 colours, 0 to 5': one below",
                "tails(-1,1)=UNKNOWN tailsOf(-1,0)=UNKNOWN found(-1)=UNKNOWN");
        edge("TAILS: '6 colours, 0 to 5': one more",
                "tails(6,1)=UNKNOWN tailsOf(6,0)=UNKNOWN found(6)=UNKNOWN");
        for (int colour = 0; colour < 6; colour++) {
            StringBuilder out = new StringBuilder();
            for (int other = 0; other < 6; other++) {
                out.append("tailsOf(").append(other).append(",1)=").append(other == colour ? 1 : 0)
                        .append(" tailsOf(").append(other).append(",0)=").append(other == colour ? "4 " : "5 ");
            }
            edge("TAILS: 'Sets of colours are told as bits': the colour " + colour, READY,
                    "hire(0,1,1," + (1 << colour) + ")=0", out.toString(), "hireOf(0,4)=" + (1 << colour));
        }
        edge("promise 5: tails, '1 to 20': the least", "tails(3,1)=6");
        edge("promise 5: tails, '1 to 20': the greatest", "tails(3,20)=25");
        edge("promise 5: tails, '1 to 20': one below", "tails(3,0)=BAD tails(3,-1)=BAD");
        edge("promise 5: tails, '1 to 20': one above", "tails(3,21)=BAD");
        edge("promise 5: arguments at the ends of the range of int",
                "tails(MIN,1)=UNKNOWN tails(MAX,1)=UNKNOWN tails(3,MIN)=BAD tails(3,MAX)=BAD tailsOf(3,0)=5",
                "count(16)=0");
        edge("promise 5: 'UNKNOWN; BAD_VALUE; FULL': UNKNOWN ahead of BAD_VALUE",
                "tails(6,0)=UNKNOWN tails(-1,21)=UNKNOWN tails(MAX,MAX)=UNKNOWN");
        edge("promise 5: 'UNKNOWN; BAD_VALUE; FULL': BAD_VALUE ahead of FULL", Script.times(4, "tails(3,20)"),
                "tails(3,14)=99 tails(3,0)=BAD tails(3,21)=BAD tails(3,20)=FULL");
        edge("promise 5: 'how many of this colour are in then': those that are out or lost are not",
                READY, "kite(0,12,1,1)=1 spool(50)=1 hire(0,1,2,4)=0 hire(1,1,2,4)=1 back(0,4) tails(2,1)=4",
                "tailsOf(2,0)=4 tailsOf(2,1)=1 tailsOf(2,2)=1");
    }

    private void tailsFull() {
        String eightyFive = Script.times(4, "tails(3,20)") + " tailsOf(3,0)=85 ";
        edge("promise 5: 'FULL if there would be more than 99': just 99 in", eightyFive, "tails(3,14)=99");
        edge("promise 5: 'FULL if there would be more than 99': 100 in", eightyFive,
                "tails(3,15)=FULL tailsOf(3,0)=85");
        edge("promise 5: 'FULL if there would be more than 99': one more than 99",
                eightyFive, "tails(3,14)=99 tails(3,1)=FULL tailsOf(3,0)=99");
        edge("promise 5: 'more than 99 .. in, out and lost together': one is out, 99",
                READY, eightyFive, "hire(0,1,1,8)=0 tails(3,14)=98 tailsOf(3,1)=1");
        edge("promise 5: 'more than 99 .. in, out and lost together': one is out, 100",
                READY, eightyFive, "hire(0,1,1,8)=0 tails(3,15)=FULL tailsOf(3,0)=84");
        edge("promise 5: 'more than 99 .. in, out and lost together': one is lost, 99",
                READY, eightyFive, "hire(0,1,1,8)=0 back(0,8) tails(3,14)=98 tailsOf(3,2)=1");
        edge("promise 5: 'more than 99 .. in, out and lost together': one is lost, 100",
                READY, eightyFive, "hire(0,1,1,8)=0 back(0,8) tails(3,15)=FULL tailsOf(3,0)=84");
        edge("promise 5: 'more than 99 .. in, out and lost together': one is out and one is lost, 99", READY,
                eightyFive, "hire(0,1,1,8)=0 back(0,8) hire(0,1,1,8)=1 tails(3,14)=97 tailsOf(3,1)=1",
                "tailsOf(3,2)=1 tails(3,1)=FULL");
        edge("promise 5: 'more than 99 .. in, out and lost together': one is out and one is lost, 100", READY,
                eightyFive, "hire(0,1,1,8)=0 back(0,8) hire(0,1,1,8)=1 tails(3,15)=FULL tailsOf(3,0)=83");
        edge("promise 5: 'more than 99 of it': the other colours do not count",
                eightyFive, Script.times(4, "tails(2,20)"), "tails(3,14)=99 tails(2,14)=99 tails(4,20)=25");
        edge("promise 9: with 99 in and lost together, one that is found is still in", READY,
                "hire(0,1,1,8)=0 back(0,8)", Script.times(4, "tails(3,20)"),
                "tails(3,14)=98 found(3)=99 found(3)=NONE", "tails(3,1)=FULL");
    }

    private void found() {
        edge("promise 9: colour, the first and the last", READY,
                "hire(0,1,1,33)=0 back(0,33) tailsOf(0,2)=1 tailsOf(5,2)=1 found(0)=5 found(5)=5",
                "tailsOf(0,2)=0 tailsOf(5,2)=0");
        edge("promise 9: colour, one below and one above", LOSS, "found(-1)=UNKNOWN found(6)=UNKNOWN");
        edge("promise 9: colour, the ends of int", LOSS, "found(MIN)=UNKNOWN found(MAX)=UNKNOWN");
        edge("promise 9: 'NONE if none is lost'", READY,
                "hire(0,1,1,1)=0 found(0)=NONE found(1)=NONE count(16)=3");
        edge("promise 9: 'NONE if none is lost': behind the last one", LOSS,
                "found(0)=5 found(0)=NONE tailsOf(0,0)=5");
        edge("promise 9: 'A lost tail turns up': one of several", READY,
                "hire(0,1,1,1)=0 back(0,1) hire(0,1,1,1)=1 back(1,1) tailsOf(0,2)=2 found(0)=4",
                "tailsOf(0,2)=1 found(0)=5 found(0)=NONE");
        edge("promise 9: a tail of a line that snapped turns up", LOSS,
                "tailsOf(5,2)=1 found(5)=5 tailsOf(5,2)=0 tailsOf(0,2)=1");
    }

    private void tailsOf() {
        edge("promise 20: colour, one below, one above and the ends of int",
                "tailsOf(-1,0)=UNKNOWN tailsOf(6,0)=UNKNOWN tailsOf(MIN,0)=UNKNOWN tailsOf(MAX,0)=UNKNOWN");
        edge("promise 20: what, the first, the last and one more",
                "tailsOf(0,0)=5 tailsOf(0,2)=0 tailsOf(0,3)=BAD tailsOf(0,-1)=BAD tailsOf(5,3)=BAD",
                "tailsOf(0,MIN)=BAD tailsOf(0,MAX)=BAD");
        edge("promise 20: 'UNKNOWN; BAD_VALUE': the first one is told",
                "tailsOf(6,3)=UNKNOWN tailsOf(-1,-1)=UNKNOWN");
        edge("promise 20: '0 for tails that are in, 1 for those that are out, 2 for those that are lost'",
                READY, "tails(2,4)=9 hire(0,1,1,4)=0 tailsOf(2,0)=8 tailsOf(2,1)=1 tailsOf(2,2)=0 back(0,4)",
                "tailsOf(2,0)=8 tailsOf(2,1)=0 tailsOf(2,2)=1 hire(0,1,1,4)=1 tailsOf(2,0)=7 tailsOf(2,1)=1",
                "tailsOf(2,2)=1");
    }

    private void flyable() {
        String kites = " kite(4,7,1,1)=0 spool(50)=0 ";
        edge("promise 30: 'could fly': the wind just the least", kites, "flyable(3)=1");
        edge("promise 30: 'could fly': the wind one below the least", kites,
                "wind(3,3,3)=1 flyable(3)=0 flyable(2)=1");
        edge("promise 30: 'could fly': the wind just the greatest", kites, "wind(3,3,7)=1 flyable(3)=1");
        edge("promise 30: 'could fly': the wind one above the greatest", kites,
                "set(0,13) wind(3,3,8)=1 flyable(3)=0");
        edge("promise 30: 'could fly': the red flag", kites,
                "wind(3,3,7)=1 set(0,7) flyable(3)=0 set(0,8) flyable(3)=1");
        edge("promise 30: 'that are in': not one that is out", kites,
                "hire(0,1,2,0)=0 flyable(0)=0 flyable(500)=0 back(0,0) flyable(500)=1");
        edge("promise 30: 'that are in': not one that is lost", LOSS,
                "flyable(0)=0 flyable(9)=0 kite(0,12,1,1)=1 flyable(9)=2");
        edge("promise 30: 'as a set': none of several, and the last of 16", Script.times(15, "kite(0,3,1,1)"),
                "flyable(0)=0 kite(4,4,1,1)=15 flyable(0)=32768 wind(5,5,3)=1 flyable(5)=32767");
        edge("promise 30: 'as a set': all of 16", Script.times(16, "kite(0,12,1,1)"), "flyable(0)=65535");
        edge("promise 30: 'the kites': in no wind none that did not come", "wind(0,3,0)=4 flyable(3)=0",
                "kite(1,12,1,1)=0 flyable(3)=0 kite(0,12,1,1)=1 flyable(3)=2 flyable(4)=3");
        edge("promise 30: 'the kites': in no wind all of 16, and no more", Script.times(16, "kite(0,0,1,1)"),
                "wind(3,3,0)=1 flyable(3)=65535 flyable(4)=0");
        edge("promise 30: hour, the first and the last", kites, "flyable(0)=1 flyable(999)=1");
        edge("promise 30: hour, one below and one above", kites, "flyable(-1)=UNKNOWN flyable(1000)=UNKNOWN");
        edge("promise 30: hour, the ends of int", kites, "flyable(MIN)=UNKNOWN flyable(MAX)=UNKNOWN");
        edge("promise 30: an hour that is gone by", kites, "wind(0,0,2)=1 pass(1) flyable(0)=0 flyable(1)=1");
    }
}
