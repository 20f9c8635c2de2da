/** The section 'HIRES' and promises 7, 8, 21, 26, 27, 28 and 32: their boundary cases. */
final class HireEdges extends Edges {
    HireEdges(Checks checks) {
        super(checks);
    }

    @Override
    void run() {
        hiresThatCome();
        eachReasonAlone();
        reasonsTogether();
        spoolThatIsTaken();
        paying();
        ending();
        hire();
        back();
        hireOf();
        why();
        next();
        longest();
        dearest();
    }

    // ---- a hire

    /** Two hundred hires in some 240 calls: ten at a time, for an hour. */
    private static String hires(int hires) {
        StringBuilder run = new StringBuilder(Script.times(10, "kite(0,12,1,1)")).append(' ')
                .append(Script.times(10, "spool(20)"));
        for (int hire = 0; hire < hires; hire++) {
            run.append(" hire(").append(hire % 10).append(",1,1,0)=").append(hire);
            if (hire % 10 == 9) {
                run.append(" pass(1)=10");
            }
        }
        return run.append(' ').toString();
    }

    /** Ten hires more, for an hour. */
    private static String tenHires(int first) {
        StringBuilder run = new StringBuilder();
        for (int kite = 0; kite < 10; kite++) {
            run.append("hire(").append(kite).append(",1,1,0)=").append(first + kite).append(' ');
        }
        return run.toString();
    }

    private void hiresThatCome() {
        edge("HIRES: 'A hire has a number (from 0, in the order in which they came)': none yet",
                "hireOf(0,0)=UNKNOWN hireOf(-1,0)=UNKNOWN back(0,0)=UNKNOWN snapsIn(0)=UNKNOWN count(6)=0");
        edge("HIRES: 'from 0, in the order in which they came': the kites and spools are taken otherwise",
                "kite(0,12,1,1)=0 kite(0,12,1,1)=1 spool(20)=0 spool(10)=1 hire(1,1,1,0)=0 hire(0,1,1,0)=1",
                "hireOf(0,0)=1 hireOf(0,1)=1 hireOf(1,0)=0 hireOf(1,1)=0");
        edge("HIRES: 'from 0, in the order in which they came': a number does not come again",
                READY, "hire(0,1,1,0)=0 back(0,0) hire(0,1,1,0)=1 pass(1)=1 hire(0,1,1,0)=2");
        edge("HIRES: a refused hire takes no number", READY,
                "hire(0,96,1,0)=-14 hire(0,0,1,0)=BAD hire(0,95,1,0)=0");
        edge("HIRES: 'at most 200 ever': the last one that has room", hires(199),
                "count(6)=199 hire(9,1,1,0)=199 count(6)=200 hireOf(199,0)=9 pass(1)=10");
        edge("HIRES: 'at most 200 ever': one more, though all have ended", hires(200),
                "count(6)=200 count(7)=0 hire(0,1,1,0)=FULL count(6)=200 kiteOf(0,0)=0 kiteOf(0,6)=20",
                "count(16)=4");
        edge("HIRES: 'at most 200 ever': an undone one makes room",
                hires(199), "hire(9,1,1,0)=199 undo()=3 hire(9,1,1,0)=199 pass(1)=10 hire(0,1,1,0)=FULL",
                "undo()=3 undo()=2 hire(9,1,1,0)=199");
        edge("promise 7: 'FULL if 200 came': behind UNKNOWN, BAD_VALUE and the refusals", hires(200),
                "hire(10,1,1,0)=UNKNOWN hire(0,1,13,0)=BAD hire(0,16,1,0)=-14 why(0,15,1,0)=0",
                "hire(0,15,1,0)=FULL");
        edge("promise 26: 200 hires are no reason", hires(200), "why(0,1,1,0)=0 longest(0,1)=12 dearest(1)=0");
        edge("HIRES: 'It begins with the hour of now': the first hour",
                READY, "hire(0,1,1,0)=0 pass(1)=1 count(14)=1 ended(0,2)=0 spoolOf(0,1)=4");
        edge("HIRES: 'It begins with the hour of now': a later hour", READY,
                "pass(7) wind(6,6,1)=BAD wind(7,7,1)=1 wind(8,8,2)=1 hire(0,1,2,0)=0 pass(2)=1",
                "spoolOf(0,1)=3 ended(0,2)=8");
        edge("HIRES: 'It begins with the hour of now': the hour 999",
                READY, Script.hours(999), "hire(0,1,1,0)=0 pass(1)=1 ended(0,2)=999 count(14)=1");
        edge("HIRES: 'tails (one of each colour of a set)': none", READY,
                "hire(0,1,1,0)=0 hireOf(0,4)=0 tailsOf(0,1)=0 tailsOf(5,1)=0");
        edge("HIRES: 'tails (one of each colour of a set)': all", READY, "hire(0,1,1,63)=0 hireOf(0,4)=63",
                "tailsOf(0,1)=1 tailsOf(1,1)=1 tailsOf(2,1)=1 tailsOf(3,1)=1 tailsOf(4,1)=1 tailsOf(5,1)=1");
    }

    // ---- the reasons of a refusal

    /** A kite for winds 4 to 7, another one for any, and a spool of 20 metres. */
    private static final String SMALL = " kite(4,7,1,5)=0 kite(0,12,1,5)=1 spool(20)=0 ";

    private void refused(String sentence, int reason, String hire, String... ahead) {
        String call = "(" + hire + ")=";
        edge(sentence, String.join(" ", ahead), "why" + call + reason, "hire" + call + (-10 - reason));
    }

    private void taken(String sentence, int number, String hire, String... ahead) {
        String call = "(" + hire + ")=";
        edge(sentence, String.join(" ", ahead), "why" + call + 0, "hire" + call + number);
    }

    private void eachReasonAlone() {
        taken("HIRES: none of the six reasons holds", 0, "0,15,12,63", SMALL);
        refused("HIRES: '1 the kite is not in': it is out", 1, "1,1,1,0",
                "kite(0,12,1,1)=0 kite(0,12,1,1)=1 spool(20)=0 spool(20)=1 hire(1,1,1,0)=0");
        refused("HIRES: '1 the kite is not in': it is lost", 1, "0,1,1,0",
                "kite(0,12,9,1)=0 spool(20)=0 set(1,20) hire(0,1,1,0)=0 pass(1)=1 kiteOf(0,0)=2");
        taken("HIRES: '1 the kite is not in': it came back", 1, "0,1,1,0", SMALL, "hire(0,1,1,0)=0 back(0,0)");
        taken("HIRES: '2 .. above the kite's greatest': just the greatest", 0, "0,1,2,0", SMALL,
                "wind(0,1,7)=2");
        refused("HIRES: '2 .. above the kite's greatest': one above", 2, "0,1,2,0", SMALL,
                "set(0,13) wind(0,1,8)=2");
        refused("HIRES: '2 in one of its hours': the first one", 2, "0,1,12,0", SMALL,
                "set(0,13) wind(0,0,8)=1");
        refused("HIRES: '2 in one of its hours': the last one", 2, "0,1,12,0", SMALL,
                "set(0,13) wind(11,11,8)=1");
        taken("HIRES: '2 in one of its hours': the one behind the last", 0, "0,1,12,0", SMALL,
                "set(0,13) wind(12,12,8)=1");
        refused("HIRES: '2 in one of its hours': one in the middle", 2, "0,1,12,0", SMALL,
                "set(0,13) wind(6,6,8)=1");
        taken("HIRES: '2 in one of its hours': the one ahead of now", 0, "0,1,12,0", SMALL,
                "set(0,13) wind(0,0,8)=1 pass(1)");
        taken("HIRES: '2 .. or the red flag is up': wind one below it", 0, "1,1,2,0", SMALL, "wind(1,1,7)=1");
        refused("HIRES: '2 .. or the red flag is up': wind just that", 2, "1,1,2,0", SMALL, "wind(1,1,8)=1");
        refused("HIRES: '2 .. or the red flag is up': in the last hour", 2, "1,1,12,0", SMALL,
                "wind(11,11,8)=1");
        taken("HIRES: '2 .. or the red flag is up': behind the last hour", 0, "1,1,12,0", SMALL,
                "wind(12,12,8)=1");
        refused("HIRES: '2 .. or the red flag is up': below the kite's greatest", 2, "0,1,1,0", SMALL,
                "set(0,4)");
        taken("HIRES: '3 in the hour of now the wind is below the kite's least': just the least", 0,
                "0,1,1,0", SMALL);
        refused("HIRES: '3 in the hour of now the wind is below the kite's least': one below", 3, "0,1,1,0",
                SMALL, "wind(0,0,3)=1");
        taken("HIRES: '3 in the hour of now': a later hour does not matter", 0, "0,1,12,0", SMALL,
                "wind(1,999,0)=999");
        taken("HIRES: '3 in the hour of now': nor does one that is gone by", 0, "0,1,12,0", SMALL,
                "wind(0,0,0)=1 pass(1)");
        refused("HIRES: '4 no spool': none came", 4, "0,1,1,0", "kite(0,12,1,1)=0");
        taken("HIRES: '4 .. has the metres and the spare metres': just so many", 0, "0,15,1,0", SMALL);
        refused("HIRES: '4 .. has the metres and the spare metres': one is wanting", 4, "0,16,1,0", SMALL);
        taken("HIRES: '4 .. the spare metres': 0 of them, just so many", 0, "0,20,1,0", SMALL, "set(4,0)");
        refused("HIRES: '4 .. the spare metres': 0 of them, one is wanting", 4, "0,21,1,0", SMALL, "set(4,0)");
        taken("HIRES: '4 .. the spare metres': 50 of them, just so many", 0, "0,10,1,0", SMALL,
                "spool(60)=1 set(4,50)");
        refused("HIRES: '4 .. the spare metres': 50 of them, one is wanting", 4, "0,11,1,0", SMALL,
                "spool(60)=1 set(4,50)");
        taken("HIRES: '4 .. the metres': 300 and none to spare", 0, "0,300,1,0", SMALL,
                "spool(300)=1 set(4,0)");
        refused("HIRES: '4 .. the metres': 300 and one to spare", 4, "0,300,1,0", SMALL,
                "spool(300)=1 set(4,1)");
        refused("HIRES: '4 no spool that is in': it is out", 4, "0,1,1,0", SMALL, "hire(1,1,2,0)=0 pass(1)=0");
        taken("HIRES: '4 no spool that is in': it is in again", 1, "0,1,1,0", SMALL,
                "hire(1,1,2,0)=0 pass(2)=1");
        refused("HIRES: '4 no spool': it lost too many metres", 4, "0,6,1,0", SMALL,
                "kite(0,12,9,1)=2 set(1,20) hire(2,10,1,0)=0 pass(1)=1 spoolOf(0,0)=10");
        taken("HIRES: '4 no spool': it lost not too many metres", 1, "0,5,1,0", SMALL,
                "kite(0,12,9,1)=2 set(1,20) hire(2,10,1,0)=0 pass(1)=1 spoolOf(0,0)=10");
        String four = SMALL + Script.times(4, "hire(1,1,1,8) back(#,8)");
        taken("HIRES: '5 .. of which none is in': one is in", 4, "0,1,1,8", numbered(four), "tailsOf(3,0)=1");
        String five = numbered(SMALL + Script.times(5, "hire(1,1,1,8) back(#,8)"));
        refused("HIRES: '5 .. of which none is in': all are lost", 5, "0,1,1,8", five, "tailsOf(3,0)=0");
        taken("HIRES: '5 a tail of a colour is wanted': another colour", 5, "0,1,1,55", five);
        taken("HIRES: '5 a tail of a colour is wanted': none", 5, "0,1,1,0", five);
        refused("HIRES: '5 a tail of a colour': one of all", 5, "0,1,1,63", five);
        taken("HIRES: '5 .. of which none is in': one was found", 5, "0,1,1,8", five, "found(3)=1");
        taken("HIRES: '5 .. of which none is in': one was bought", 5, "0,1,1,8", five, "tails(3,1)=1");
        StringBuilder out = new StringBuilder();
        for (int kite = 0; kite < 6; kite++) {
            out.append("kite(0,12,1,1)=").append(kite).append(" spool(20)=").append(kite).append(' ');
        }
        for (int kite = 0; kite < 5; kite++) {
            out.append("hire(").append(kite).append(",1,2,32)=").append(kite).append(' ');
        }
        refused("HIRES: '5 .. of which none is in': all are out", 5, "5,1,1,32", out.toString());
        taken("HIRES: '5 .. of which none is in': one that was out is in again", 5, "5,1,1,32",
                out.toString(), "back(2,0)");
        taken("HIRES: '6 its last hour would be above 999': just 999", 0, "0,1,12,0", SMALL,
                Script.hours(988));
        refused("HIRES: '6 its last hour would be above 999': 1000", 6, "0,1,12,0", SMALL, Script.hours(989));
        taken("HIRES: '6 ..': an hour in the hour 999", 0, "0,1,1,0", SMALL, Script.hours(999));
        refused("HIRES: '6 ..': two hours in the hour 999", 6, "0,1,2,0", SMALL, Script.hours(999));
        refused("HIRES: '6 ..': an hour in the hour 1000", 6, "0,1,1,0", SMALL, Script.hours(1000));
        refused("HIRES: 'hours above 999 have no wind: the reasons 2 and 3 do not hold for them'", 6,
                "2,1,1,0", SMALL, "kite(12,12,1,1)=2 kite(0,0,1,1)=3", Script.hours(1000),
                "why(3,1,1,0)=6");
        refused("HIRES: 'hours above 999 have no wind ..': but those up to 999 have", 2, "0,1,2,0", SMALL,
                "wind(999,999,8)=1", Script.hours(999));
    }

    /** Puts the numbers of hires, from 0, in place of each "#". */
    private static String numbered(String run) {
        StringBuilder text = new StringBuilder();
        int number = 0;
        for (int i = 0; i < run.length(); i++) {
            if (run.charAt(i) == '#') {
                text.append(number);
                number++;
            } else {
                text.append(run.charAt(i));
            }
        }
        return text.toString();
    }

    /** Each set of the six reasons: the first one that holds is told. */
    private void reasonsTogether() {
        for (int way = 0; way < 3; way++) {
            for (int set = 0; set < 64; set++) {
                together(set, way);
            }
        }
    }

    private static boolean holds(int set, int reason) {
        return (set >> (reason - 1) & 1) == 1;
    }

    /** In way 0 the wind is above the kite's greatest, in way 1 the red flag is up; in way 2 it is lost. */
    private void together(int set, int way) {
        int now = holds(set, 6) ? 989 : 988;
        StringBuilder run = new StringBuilder(" kite(5,9,9,5)=0 kite(0,12,1,1)=1 spool(20)=0 spool(20)=1")
                .append(" set(0,13)=8 ").append(Script.hours(now - 1));
        int hires = 0;
        for (int tail = 0; tail < 5 && holds(set, 5); tail++) {
            run.append("hire(1,1,1,16)=").append(hires).append(" back(").append(hires).append(",16) ");
            hires++;
        }
        run.append(wind(now - 1, 5)).append(wind(now, 6));
        if (holds(set, 1)) {
            run.append(way == 2 ? "set(1,20)=120 hire(0,1,1,0)=" : "hire(0,1,3,0)=").append(hires);
            hires++;
        }
        run.append(holds(set, 1) && way == 2 ? " pass(1)=1 " : " pass(1)=0 ");
        if (holds(set, 2)) {
            run.append(way == 1 ? "set(0,8)=13 " : "").append(wind(now + 9, way == 1 ? 8 : 10));
        }
        run.append(holds(set, 3) ? wind(now, 4) : "");
        int reason = set == 0 ? 0 : Integer.numberOfTrailingZeros(set) + 1;
        String args = "(0," + (holds(set, 4) ? 16 : 15) + ",12,16)=";
        run.append("why").append(args).append(reason).append(" hire").append(args)
                .append(reason == 0 ? hires : -10 - reason);
        StringBuilder name = new StringBuilder("HIRES: 'the first of these reasons that holds', way ");
        name.append(way).append(':');
        for (int each = 1; each <= 6; each++) {
            name.append(holds(set, each) ? " " + each : "");
        }
        edge(name.toString(), run.toString());
    }

    private static String wind(int hour, int wind) {
        return "wind(" + hour + "," + hour + "," + wind + ")=1 ";
    }

    // ---- what a hire takes and pays

    private void spoolThatIsTaken() {
        String kites = Script.times(4, "kite(0,12,1,1)");
        edge("HIRES: 'takes the spool that is in': not one that is out",
                kites, "spool(20)=0 spool(30)=1 hire(0,1,2,0)=0 hireOf(0,1)=0 hire(1,1,2,0)=1 hireOf(1,1)=1");
        edge("HIRES: 'has the metres and the spare metres': just so many", kites,
                "spool(30)=0 spool(20)=1 hire(0,15,1,0)=0 hireOf(0,1)=1");
        edge("HIRES: 'has the metres and the spare metres': one is wanting", kites,
                "spool(30)=0 spool(20)=1 hire(0,16,1,0)=0 hireOf(0,1)=0");
        edge("HIRES: 'has the fewest metres': the last one", kites,
                "spool(30)=0 spool(29)=1 spool(28)=2 hire(0,1,1,0)=0 hireOf(0,1)=2");
        edge("HIRES: 'has the fewest metres': the first one", kites,
                "spool(28)=0 spool(29)=1 spool(30)=2 hire(0,1,1,0)=0 hireOf(0,1)=0");
        edge("HIRES: 'has the fewest metres': one in the middle", kites,
                "spool(30)=0 spool(28)=1 spool(29)=2 hire(0,1,1,0)=0 hireOf(0,1)=1");
        edge("HIRES: 'has the fewest metres': ahead of less wear", kites,
                "spool(28)=0 hire(0,1,1,0)=0 pass(1)=1 spool(29)=1 spoolOf(0,1)=4 hire(0,1,1,0)=1",
                "hireOf(1,1)=0");
        edge("HIRES: 'has the fewest metres': those that it has left",
                "kite(0,12,9,1)=0 kite(0,12,1,1)=1 spool(40)=0 set(1,20) hire(0,11,1,0)=0 pass(1)=1",
                "spoolOf(0,0)=29 spool(30)=1", "hire(1,1,1,0)=1 hireOf(1,1)=0");
        edge("HIRES: 'of several the one with the least wear'", kites,
                "spool(28)=0 spool(28)=1 hire(0,1,1,0)=0 hireOf(0,1)=0 pass(1)=1 hire(0,1,1,0)=1",
                "hireOf(1,1)=1");
        edge("HIRES: 'of several the one with the least wear': the last of three", kites,
                "spool(28)=0 spool(28)=1 spool(28)=2 hire(0,1,2,0)=0 hire(1,1,1,0)=1 pass(2)=2",
                "spoolOf(0,1)=8 spoolOf(1,1)=4 hire(0,1,1,0)=2 hireOf(2,1)=2 hire(1,1,1,0)=3 hireOf(3,1)=1",
                "hire(2,1,1,0)=4 hireOf(4,1)=0");
        edge("HIRES: 'of several the lowest': none is worn", kites,
                "spool(30)=0 spool(28)=1 spool(28)=2 spool(28)=3 hire(0,1,1,0)=0 hireOf(0,1)=1",
                "hire(1,1,1,0)=1 hireOf(1,1)=2",
                "hire(2,1,1,0)=2 hireOf(2,1)=3 hire(3,1,1,0)=3 hireOf(3,1)=0");
        edge("HIRES: 'of several the lowest': all are worn the same", kites,
                "spool(28)=0 spool(28)=1 hire(0,1,1,0)=0 hire(1,1,1,0)=1 pass(1)=2 spoolOf(0,1)=4",
                "spoolOf(1,1)=4", "hire(0,1,1,0)=2 hireOf(2,1)=0 hire(1,1,1,0)=3 hireOf(3,1)=1");
        edge("HIRES: the spool that is taken has all ten to choose from", kites, Script.times(9, "spool(28)"),
                "spool(27)=9 hire(0,1,1,0)=0 hireOf(0,1)=9 hire(1,1,1,0)=1 hireOf(1,1)=0");
    }

    private void paying() {
        edge("HIRES: 'It pays the price for all its hours at once': one hour, one coin",
                "kite(0,12,1,1)=0 spool(20)=0 hire(0,1,1,0)=0 count(11)=1 hireOf(0,5)=1");
        edge("HIRES: 'the coins that it has paid so far': none of an earlier hire's, ten at once", hires(10),
                "ended(0,3)=1001 ended(7,3)=1001", tenHires(10),
                "hireOf(10,5)=1 hireOf(19,5)=1 pass(1)=10 ended(0,3)=1001 ended(7,3)=1001 count(11)=20");
        edge("HIRES: 'the coins that it has paid so far': none of an earlier hire's, the last of ten",
                hires(9), "hire(9,1,2,0)=9 back(9,0)=1001 hire(9,1,1,0)=10 hireOf(10,5)=1 back(0,0)=1000",
                "hire(0,1,1,0)=11 hireOf(11,5)=1 hireOf(10,5)=1");
        edge("HIRES: 'It pays the price for all its hours at once': twelve hours, 99 coins",
                "kite(0,12,1,99)=0 spool(20)=0 hire(0,1,12,63)=0 count(11)=1188 hireOf(0,5)=1188 pass(1)",
                "count(11)=1188");
    }

    private void ending() {
        edge("HIRES: 'it comes back (0) when its hours are over': one hour ahead", READY,
                "hire(0,1,3,0)=0 pass(2)=0 ended(0,1)=NONE hireOf(0,3)=1");
        edge("HIRES: 'it comes back (0) when its hours are over'", READY,
                "hire(0,1,3,0)=0 pass(3)=1 ended(0,1)=0 hireOf(0,3)=UNKNOWN count(8)=1");
        edge("HIRES: 'or earlier as it is told to'", READY,
                "hire(0,1,3,0)=0 back(0,0) ended(0,1)=0 ended(0,2)=0 hireOf(0,3)=UNKNOWN count(8)=1");
        edge("HIRES: 'it is called down (1)'", READY,
                "hire(0,1,3,0)=0 set(0,4) pass(1)=1 ended(0,1)=1 count(9)=1 count(8)=0 count(10)=0");
        edge("HIRES: 'its line snaps (2)'", READY,
                "hire(0,1,12,0)=0 set(1,20) pass(5)=1 ended(0,1)=2 count(10)=1 count(8)=0 count(9)=0");
        String[] ways = {"pass(3)=1", "back(0,0)", "set(0,4) pass(1)=1"};
        String[] names = {"when it comes back", "when it is told to come back", "when it is called down"};
        for (int way = 0; way < ways.length; way++) {
            edge("HIRES: 'When it ends, the kite and the spool are in again, and its tails': " + names[way],
                    READY, "hire(0,1,3,33)=0", ways[way], "kiteOf(0,0)=0 spoolOf(0,2)=NONE spoolOf(0,0)=100",
                    "tailsOf(0,0)=5 tailsOf(0,1)=0 tailsOf(0,2)=0 tailsOf(5,0)=5 tailsOf(5,1)=0",
                    "tailsOf(5,2)=0 count(7)=0");
        }
        edge("HIRES: '(but when the line snapped)': the spool is in again, the kite is not", READY,
                "hire(0,1,12,33)=0 set(1,20) pass(5)=1 kiteOf(0,0)=2 spoolOf(0,2)=NONE",
                "tailsOf(0,0)=4 tailsOf(0,1)=0 tailsOf(0,2)=1 tailsOf(5,0)=4 tailsOf(5,1)=0 tailsOf(5,2)=1",
                "tailsOf(1,2)=0");
        edge("HIRES: '.. but those that are told to be missing'", READY,
                "hire(0,1,3,35)=0 back(0,33) tailsOf(0,0)=4 tailsOf(0,2)=1 tailsOf(1,0)=5 tailsOf(1,2)=0",
                "tailsOf(5,0)=4 tailsOf(5,2)=1", "tailsOf(0,1)=0 tailsOf(1,1)=0 tailsOf(5,1)=0");
    }

    // ---- the calls

    private void hire() {
        edge("promise 7: kite, the first and the last of 16", Script.times(16, "kite(0,12,1,1)"),
                "spool(20)=0 spool(20)=1 hire(15,1,1,0)=0 hire(0,1,1,0)=1 hireOf(0,0)=15");
        edge("promise 7: kite, one below and one that did not come", READY,
                "hire(-1,1,1,0)=UNKNOWN hire(1,1,1,0)=UNKNOWN hire(16,1,1,0)=UNKNOWN");
        edge("promise 7: metres, '1 to 300': the least", READY, "hire(0,1,1,0)=0 hireOf(0,2)=1");
        edge("promise 7: metres, '1 to 300': the greatest", READY,
                "spool(300)=1 set(4,0) hire(0,300,1,0)=0 hireOf(0,2)=300 hireOf(0,1)=1");
        edge("promise 7: metres, '1 to 300': one below", READY,
                "hire(0,0,1,0)=BAD hire(0,-1,1,0)=BAD hire(0,-5,1,0)=BAD");
        edge("promise 7: metres, '1 to 300': one above", READY, "hire(0,301,1,0)=BAD hire(0,300,1,0)=-14");
        edge("promise 7: hours, '1 to 12': the least", READY, "hire(0,1,1,0)=0 hireOf(0,3)=1");
        edge("promise 7: hours, '1 to 12': the greatest", READY,
                "hire(0,1,12,0)=0 hireOf(0,3)=12 pass(11)=0 pass(1)=1");
        edge("promise 7: hours, '1 to 12': one below", READY, "hire(0,1,0,0)=BAD hire(0,1,-1,0)=BAD");
        edge("promise 7: hours, '1 to 12': one above", READY, "hire(0,1,13,0)=BAD");
        edge("promise 7: tails, '0 to 63': the least", READY, "hire(0,1,1,0)=0 hireOf(0,4)=0");
        edge("promise 7: tails, '0 to 63': the greatest", READY, "hire(0,1,1,63)=0 hireOf(0,4)=63");
        edge("promise 7: tails, '0 to 63': one below", READY, "hire(0,1,1,-1)=BAD");
        edge("promise 7: tails, '0 to 63': one above", READY, "hire(0,1,1,64)=BAD");
        edge("promise 7: arguments at the ends of the range of int", READY,
                "hire(MIN,1,1,0)=UNKNOWN hire(MAX,1,1,0)=UNKNOWN hire(0,MIN,1,0)=BAD hire(0,MAX,1,0)=BAD",
                "hire(0,1,MIN,0)=BAD hire(0,1,MAX,0)=BAD hire(0,1,1,MIN)=BAD hire(0,1,1,MAX)=BAD count(16)=2",
                "count(6)=0");
        edge("promise 7: 'UNKNOWN; BAD_VALUE; ..': UNKNOWN ahead of BAD_VALUE", READY,
                "hire(1,0,1,0)=UNKNOWN hire(1,1,0,0)=UNKNOWN hire(1,1,1,64)=UNKNOWN",
                "hire(-1,301,13,-1)=UNKNOWN");
        edge("promise 7: 'BAD_VALUE; -10 minus the reason': BAD_VALUE ahead of each reason", READY,
                "hire(0,1,2,0)=0 hire(0,0,1,0)=BAD hire(0,1,13,0)=BAD hire(0,1,1,64)=BAD hire(0,1,1,0)=-11");
        edge("promise 7: 'refused (which is an error)': nothing is changed", READY,
                "hire(0,96,12,63)=-14 count(6)=0 count(11)=0 kiteOf(0,0)=0 kiteOf(0,6)=0 tailsOf(0,0)=5",
                "spoolOf(0,2)=NONE count(16)=2");
    }

    private void back() {
        String out = READY + "hire(0,1,5,42)=0 ";
        edge("promise 8: hire, 'that has not ended': it is out", out, "back(0,0)");
        edge("promise 8: hire, 'that has not ended': it came back", out, "back(0,0) back(0,0)=UNKNOWN");
        edge("promise 8: hire, 'that has not ended': its hours are over", out, "pass(5)=1 back(0,0)=UNKNOWN");
        edge("promise 8: hire, 'that has not ended': it was called down", out,
                "set(0,1) pass(1)=1 back(0,0)=UNKNOWN");
        edge("promise 8: hire, 'that has not ended': its line snapped", out,
                "set(1,20) pass(5)=1 count(10)=1 back(0,0)=UNKNOWN");
        edge("promise 8: hire, one below and one that did not come", out,
                "back(-1,0)=UNKNOWN back(1,0)=UNKNOWN back(200,0)=UNKNOWN");
        edge("promise 8: missing, 'of its tails': none", out,
                "back(0,0)=1017 tailsOf(1,2)=0 tailsOf(3,2)=0 tailsOf(5,2)=0");
        edge("promise 8: missing, 'of its tails': all", out,
                "back(0,42)=1008 tailsOf(1,2)=1 tailsOf(3,2)=1 tailsOf(5,2)=1");
        edge("promise 8: missing, 'of its tails': some", out,
                "back(0,34)=1011 tailsOf(1,2)=1 tailsOf(3,2)=0 tailsOf(5,2)=1");
        for (int bit = 0; bit < 6; bit++) {
            boolean its = (42 >> bit & 1) == 1;
            edge("promise 8: 'BAD_VALUE if a colour is not of its tails': the colour " + bit,
                    out, "back(0," + (1 << bit) + ")=" + (its ? "1014" : "BAD"));
        }
        edge("promise 8: 'BAD_VALUE if a colour is not of its tails': one besides its own", out,
                "back(0,43)=BAD back(0,63)=BAD back(0,3)=BAD");
        edge("promise 8: 'or out of range': one below and one above", out,
                "back(0,-1)=BAD back(0,64)=BAD back(0,106)=BAD");
        edge("promise 8: 'or out of range': all its tails and more", READY,
                "hire(0,1,1,63)=0 back(0,64)=BAD back(0,127)=BAD back(0,63)=985");
        edge("promise 8: arguments at the ends of the range of int", out,
                "back(MIN,0)=UNKNOWN back(MAX,0)=UNKNOWN back(0,MIN)=BAD back(0,MAX)=BAD count(16)=3",
                "count(7)=1");
        edge("promise 8: 'UNKNOWN; BAD_VALUE': the first one is told", out,
                "back(1,64)=UNKNOWN back(-1,-1)=UNKNOWN back(MAX,MIN)=UNKNOWN");
        edge("promise 8: 'halved and rounded down': an odd price",
                "kite(0,12,1,1)=0 spool(20)=0 hire(0,1,1,0)=0 back(0,0)=1000 count(11)=1");
        edge("promise 8: 'halved and rounded down': an even one",
                "kite(0,12,1,1)=0 spool(20)=0 hire(0,1,2,0)=0 back(0,0)=1001 count(11)=1");
        edge("promise 8: 'halved and rounded down': all hours together, not each",
                "kite(0,12,1,3)=0 spool(20)=0 hire(0,1,4,0)=0 pass(1) back(0,0)=1004 count(11)=8");
        edge("promise 8: 'for the hours that are left': in the last hour",
                READY, "hire(0,1,12,0)=0 pass(11)=0 back(0,0)=1003 count(11)=81 ended(0,2)=11");
        edge("promise 8: 'for the hours that are left': a calm hour is gone too",
                "kite(4,12,1,10)=0 spool(20)=0 hire(0,1,4,0)=0 wind(0,0,0)=1 pass(1) count(11)=30",
                "back(0,0)=1015 count(11)=15 ended(0,3)=1015");
        edge("promise 8: 'for each tail that is missing the fee is paid': a fee of 0", out,
                "set(3,0) back(0,42)=1017 count(11)=18 ended(0,3)=1018");
        edge("promise 8: 'for each tail that is missing the fee is paid': a fee of 99, below 1000",
                READY, "set(3,99) hire(0,1,1,63)=0 back(0,63)=409 count(11)=598 ended(0,3)=1598");
        edge("promise 8: the hour of now does not pass", out,
                "pass(2)=0 back(0,0) count(0)=2 ended(0,2)=2 count(14)=2");
    }

    private void hireOf() {
        String out = READY + "hire(0,60,5,42)=0 ";
        edge("promise 21: what, the first, the last and one more", out,
                "hireOf(0,0)=0 hireOf(0,5)=35 hireOf(0,6)=BAD hireOf(0,-1)=BAD hireOf(0,7)=BAD",
                "hireOf(0,MIN)=BAD hireOf(0,MAX)=BAD");
        edge("promise 21: hire, 'that has not ended': one below, one more", out,
                "hireOf(-1,0)=UNKNOWN hireOf(1,0)=UNKNOWN hireOf(-5,0)=UNKNOWN");
        edge("promise 21: hire, 'that has not ended': one that has", out,
                "back(0,0) hireOf(0,0)=UNKNOWN hireOf(0,5)=UNKNOWN");
        edge("promise 21: hire, the ends of int", out, "hireOf(MIN,0)=UNKNOWN hireOf(MAX,0)=UNKNOWN");
        edge("promise 21: 'UNKNOWN; BAD_VALUE': the first one is told", out,
                "hireOf(1,6)=UNKNOWN hireOf(-1,-1)=UNKNOWN");
        edge("promise 21: '0 for its kite .. 4 for its tails'",
                "kite(0,12,1,1)=0 kite(0,12,1,8)=1 spool(20)=0 spool(90)=1 hire(1,60,5,42)=0",
                "hireOf(0,0)=1 hireOf(0,1)=1 hireOf(0,2)=60 hireOf(0,3)=5 hireOf(0,4)=42 hireOf(0,5)=40");
        edge("promise 21: '3 for its hours that are left'", out,
                "hireOf(0,3)=5 pass(1) hireOf(0,3)=4 pass(3) hireOf(0,3)=1 pass(1)=1 hireOf(0,3)=UNKNOWN");
        edge("promise 21: '5 for the coins that it paid less those given back so far'",
                "kite(4,12,1,7)=0 spool(90)=0 hire(0,60,5,0)=0 hireOf(0,5)=35 wind(1,2,3)=2 pass(1)",
                "hireOf(0,5)=35 pass(1) hireOf(0,5)=28 pass(1) hireOf(0,5)=21", "pass(1) hireOf(0,5)=21");
    }

    private void why() {
        edge("promise 26: kite, one below and one that did not come", READY,
                "why(-1,1,1,0)=UNKNOWN why(1,1,1,0)=UNKNOWN why(16,1,1,0)=UNKNOWN");
        edge("promise 26: metres, '1 to 300': the least and the greatest", READY,
                "spool(300)=1 set(4,0) why(0,1,1,0)=0 why(0,300,1,0)=0");
        edge("promise 26: metres, '1 to 300': one below and one above", READY,
                "why(0,0,1,0)=BAD why(0,301,1,0)=BAD");
        edge("promise 26: hours, '1 to 12': the least and the greatest", READY,
                "why(0,1,1,0)=0 why(0,1,12,0)=0");
        edge("promise 26: hours, '1 to 12': one below and one above", READY,
                "why(0,1,0,0)=BAD why(0,1,13,0)=BAD");
        edge("promise 26: tails, '0 to 63': the least and the greatest", READY,
                "why(0,1,1,0)=0 why(0,1,1,63)=0");
        edge("promise 26: tails, '0 to 63': one below and one above", READY,
                "why(0,1,1,-1)=BAD why(0,1,1,64)=BAD");
        edge("promise 26: arguments at the ends of the range of int", READY,
                "why(MIN,1,1,0)=UNKNOWN why(MAX,1,1,0)=UNKNOWN why(0,MIN,1,0)=BAD why(0,MAX,1,0)=BAD",
                "why(0,1,MIN,0)=BAD why(0,1,MAX,0)=BAD why(0,1,1,MIN)=BAD why(0,1,1,MAX)=BAD");
        edge("promise 26: 'UNKNOWN; BAD_VALUE': the first one is told", READY,
                "why(1,0,1,0)=UNKNOWN why(-1,1,13,0)=UNKNOWN why(1,1,1,64)=UNKNOWN");
        edge("promise 26: BAD_VALUE, though there is a reason", READY,
                "hire(0,1,2,0)=0 why(0,1,1,0)=1 why(0,0,1,0)=BAD why(0,1,0,0)=BAD why(0,1,1,64)=BAD");
    }

    private void next() {
        String kite = " kite(4,7,1,1)=0 ";
        edge("promise 27: 'from that of now on': that of now", kite,
                "next(0,1)=0 next(0,12)=0 pass(5) next(0,1)=5 next(0,12)=5");
        edge("promise 27: 'from that of now on': not one that is gone by", kite,
                "wind(5,999,3)=995 next(0,1)=0 pass(4) next(0,1)=4 pass(1) next(0,1)=NONE");
        edge("promise 27: the reason 2: just the greatest", kite, "wind(0,0,7)=1 next(0,1)=0");
        edge("promise 27: the reason 2: one above the greatest", kite, "set(0,13) wind(0,0,8)=1 next(0,1)=1");
        edge("promise 27: the reason 2: in the last of its hours", kite,
                "set(0,13) wind(11,11,8)=1 next(0,11)=0 next(0,12)=12");
        edge("promise 27: the reason 2: the red flag", kite,
                "wind(0,0,7)=1 set(0,7) next(0,1)=1 set(0,5) next(0,1)=1 set(0,4) next(0,1)=NONE");
        edge("promise 27: the reason 3: just the least", kite, "wind(1,999,3)=999 next(0,12)=0");
        edge("promise 27: the reason 3: one below the least", kite, "wind(0,0,3)=1 next(0,12)=1");
        edge("promise 27: the reason 3: only in its first hour", kite,
                "wind(0,8,3)=9 wind(10,999,0)=990 next(0,12)=9");
        edge("promise 27: the reason 6: its last hour is just 999", kite,
                "wind(0,987,3)=988 next(0,12)=988 next(0,1)=988");
        edge("promise 27: the reason 6: its last hour would be 1000", kite,
                "wind(0,988,3)=989 next(0,12)=NONE next(0,11)=989");
        edge("promise 27: the reason 6: in the hour 988, twelve hours", kite, Script.hours(988),
                "next(0,12)=988 pass(1) next(0,12)=NONE next(0,11)=989");
        edge("promise 27: the hour 999 for an hour", kite, "wind(0,998,3)=999 next(0,1)=999 next(0,2)=NONE");
        edge("promise 27: 'NONE if there is none'", kite, "wind(0,999,3)=1000 next(0,1)=NONE");
        edge("promise 27: hours, '1 to 12': one below and one above", kite,
                "next(0,0)=BAD next(0,13)=BAD next(0,-1)=BAD");
        edge("promise 27: kite, one below and one that did not come", kite,
                "next(-1,1)=UNKNOWN next(1,1)=UNKNOWN next(16,1)=UNKNOWN");
        edge("promise 27: arguments at the ends of the range of int", kite,
                "next(MIN,1)=UNKNOWN next(MAX,1)=UNKNOWN next(0,MIN)=BAD next(0,MAX)=BAD");
        edge("promise 27: 'UNKNOWN; BAD_VALUE; NONE': the first one is told", kite,
                "wind(0,999,3)=1000 next(1,0)=UNKNOWN next(-1,13)=UNKNOWN next(0,13)=BAD");
        edge("promise 27: 'by the wind alone': no spool, and the kite is out", kite,
                "next(0,5)=0 spool(9)=0 hire(0,1,5,0)=0 next(0,5)=0 pass(1) next(0,5)=1");
        edge("promise 27: 'by the wind alone': the kite is lost",
                "kite(0,12,9,1)=0 spool(9)=0 set(1,20) hire(0,1,1,0)=0 pass(1)=1 kiteOf(0,0)=2 next(0,5)=1");
    }

    private void longest() {
        edge("promise 28: 'the hours, 1 to 12': the longest", READY, "longest(0,1)=12");
        edge("promise 28: 'the hours, 1 to 12': eleven", READY, "wind(11,11,8)=1 longest(0,1)=11");
        edge("promise 28: 'the hours, 1 to 12': twelve, the wind behind it", READY,
                "wind(12,12,8)=1 longest(0,1)=12");
        edge("promise 28: 'the hours, 1 to 12': the shortest", READY, "wind(1,1,8)=1 longest(0,1)=1");
        edge("promise 28: 'NONE if none': the red flag is up now", READY, "wind(0,0,8)=1 longest(0,1)=NONE");
        edge("promise 28: 'NONE if none': the wind is above its greatest now", READY,
                "kite(0,4,1,1)=1 longest(1,1)=12 wind(0,0,5)=1 longest(1,1)=NONE");
        edge("promise 28: 'NONE if none': the wind is below its least now", READY,
                "kite(4,12,1,1)=1 longest(1,1)=12 wind(0,0,3)=1 longest(1,1)=NONE");
        edge("promise 28: calm hours that come do not shorten it", READY,
                "kite(4,12,1,1)=1 wind(1,999,0)=999 longest(1,1)=12");
        edge("promise 28: 'NONE if none': it is out", READY, "spool(100)=1 hire(0,1,1,0)=0 longest(0,1)=NONE");
        edge("promise 28: 'NONE if none': it is lost",
                "kite(0,12,9,1)=0 spool(9)=0 set(1,20) hire(0,1,1,0)=0 pass(1)=1 longest(0,1)=NONE");
        edge("promise 28: 'with some metres': just so many, and one more", READY,
                "longest(0,95)=12 longest(0,96)=NONE");
        edge("promise 28: 'without tails': none is in",
                numbered(READY + Script.times(5, "hire(0,1,1,1) back(#,1)")),
                "why(0,1,1,1)=5 longest(0,1)=12");
        edge("promise 28: its last hour is just 999", READY, Script.hours(988), "longest(0,1)=12");
        edge("promise 28: its last hour would be 1000", READY, Script.hours(989), "longest(0,1)=11");
        edge("promise 28: in the hour 999", READY, Script.hours(999), "longest(0,1)=1");
        edge("promise 28: in the hour 1000", READY, Script.hours(1000), "longest(0,1)=NONE");
        edge("promise 28: metres, '1 to 300': the greatest", READY,
                "spool(300)=1 set(4,0) longest(0,300)=12 set(4,1) longest(0,300)=NONE");
        edge("promise 28: metres, '1 to 300': one below and one above", READY,
                "longest(0,0)=BAD longest(0,301)=BAD");
        edge("promise 28: kite, one below and one that did not come", READY,
                "longest(-1,1)=UNKNOWN longest(1,1)=UNKNOWN longest(16,1)=UNKNOWN");
        edge("promise 28: arguments at the ends of the range of int", READY,
                "longest(MIN,1)=UNKNOWN longest(MAX,1)=UNKNOWN longest(0,MIN)=BAD longest(0,MAX)=BAD");
        edge("promise 28: 'UNKNOWN; BAD_VALUE; NONE': the first one is told", READY,
                "longest(1,0)=UNKNOWN longest(-1,301)=UNKNOWN hire(0,1,1,0)=0 longest(0,0)=BAD");
    }

    private void dearest() {
        edge("promise 32: 'NONE if there is none': no kites", "spool(100)=0 dearest(1)=NONE");
        edge("promise 32: 'NONE if there is none': no spool that has the metres", READY,
                "dearest(95)=0 dearest(96)=NONE dearest(300)=NONE");
        edge("promise 32: 'NONE if there is none': the red flag is up", READY, "set(0,4) dearest(1)=NONE");
        edge("promise 32: 'NONE if there is none': the hour 1000", READY, Script.hours(999),
                "dearest(1)=0 pass(1) dearest(1)=NONE");
        edge("promise 32: 'for the most coins': one coin more", READY,
                "kite(0,12,1,8)=1 dearest(1)=1 kite(0,12,1,7)=2 dearest(1)=1");
        edge("promise 32: 'of several the lowest'", READY, "kite(0,12,1,7)=1 kite(0,12,1,7)=2 dearest(1)=0");
        edge("promise 32: 'of several the lowest': though its price is another",
                READY, "kite(0,4,1,14)=1 wind(6,6,5)=1 dearest(1)=0 longest(1,1)=6 longest(0,1)=12");
        edge("promise 32: 'its price times the hours of the longest hire': fewer hours, more coins",
                READY, "kite(0,4,1,15)=1 wind(6,6,5)=1 dearest(1)=1");
        edge("promise 32: 'its price times the hours of the longest hire': fewer hours, fewer coins",
                READY, "kite(0,4,1,13)=1 wind(6,6,5)=1 dearest(1)=0");
        edge("promise 32: 'that is in': not one that is out", READY,
                "kite(0,12,1,99)=1 spool(100)=1 dearest(1)=1 hire(1,1,1,0)=0 dearest(1)=0");
        edge("promise 32: 'that is in': not one that is lost", READY,
                "kite(0,12,9,99)=1 set(1,20) hire(1,1,1,0)=0 pass(1)=1 dearest(1)=0");
        edge("promise 32: 'could be hired now': too calm for it", READY,
                "kite(5,12,1,99)=1 dearest(1)=0 wind(0,0,5)=1 dearest(1)=1");
        edge("promise 32: 'without tails': none is in",
                numbered(READY + Script.times(5, "hire(0,1,1,1) back(#,1)")), "dearest(1)=0");
        edge("promise 32: the last of 16 kites", Script.times(15, "kite(0,12,1,98)"),
                "spool(9)=0 kite(0,12,1,99)=15 dearest(1)=15");
        edge("promise 32: 'for the most coins': one coin is enough",
                "kite(0,4,1,1)=0 spool(9)=0 wind(1,1,5)=1 longest(0,1)=1 dearest(1)=0");
        edge("promise 32: metres, '1 to 300': the greatest", READY, "spool(300)=1 set(4,0) dearest(300)=0");
        edge("promise 32: metres, '1 to 300': one below and one above", READY,
                "dearest(0)=BAD dearest(301)=BAD dearest(-1)=BAD");
        edge("promise 32: metres, the ends of int", READY, "dearest(MIN)=BAD dearest(MAX)=BAD");
        edge("promise 32: 'BAD_VALUE; NONE': the first one is told",
                "dearest(0)=BAD dearest(301)=BAD dearest(1)=NONE");
    }
}
