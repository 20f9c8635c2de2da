import java.util.ArrayList;
import java.util.List;

/**
 * A run of calls on a new hut, told as text: calls with blanks between, each with the answer that is
 * due behind "=", as in "kite(0,12,1,7)=0 spool(301)=BAD". A call without "=" may answer anything but
 * an error or NONE. text(..) empties the text and types another one.
 *
 * <p>The same run is then made again in other ways, in which nothing may be otherwise: without the
 * calls that were refused, without the questions, with each act undone and done again, with each act
 * done from a snapshot again, and with each hire and each hour asked for ahead. So the sentence "a call
 * that returns an error or NONE changes nothing", and what undo, the snapshot, why and ifPassed say,
 * are looked at wherever a run comes to.
 */
final class Script {
    private static final int MOST_CALLS = 512;
    private static final int ANY = -1;
    private static final String ACTS =
            " wind kite spool tails tellAll hire back found pass set restore ";
    private static final String CHANGES = ACTS + "type clearText undo keep ";
    private static final String HISTORY = " undo keep restore ";

    private static final class Step {
        private final String told;
        private final String name;
        private final int[] args;
        private final Double due;
        private double answer;

        Step(String told, String name, int[] args, Double due) {
            this.told = told;
            this.name = name;
            this.args = args;
            this.due = due;
        }

        boolean isOf(String names) {
            return names.contains(" " + name + " ");
        }

        boolean asksForHistory() {
            return name.equals("count") && args[0] == 16;
        }
    }

    private final Checks c;
    private final List<Step> steps = new ArrayList<>();
    private KiteHire x;
    private int calls;

    private Script(Checks checks, String script) {
        c = checks;
        for (String call : script.trim().split("\\s+")) {
            read(call);
        }
    }

    /** Makes the run and looks at each answer, then makes it again in the other ways. */
    static void check(Checks checks, String script) {
        Script run = new Script(checks, script);
        run.plainly();
        int states = run.x.count(16);
        String look = run.look();
        if (checks.anyWrong()) {
            return;
        }
        run.again("without what was refused", Script::unlessRefused, look, states);
        run.again("without the questions", Script::unlessAsked, look, states);
        run.again("each act undone and done again", Script::undone, look, states);
        run.again("each hire and hour asked for ahead", Script::askedAhead, look, states);
        if (!run.looksAtHistory()) {
            run.again("each act done from a snapshot again", Script::restored, look, ANY);
        }
    }

    // ---- reading

    private void read(String told) {
        int open = told.indexOf('(');
        int close = told.lastIndexOf(')');
        if (open < 0 || close < open) {
            throw new IllegalArgumentException("no call: " + told);
        }
        String name = told.substring(0, open);
        String args = told.substring(open + 1, close);
        String due = told.substring(close + 1);
        if (name.equals("text")) {
            steps.add(new Step("clearText()", "clearText", new int[0], null));
            for (int i = 0; i < args.length(); i++) {
                steps.add(new Step("type(" + args.charAt(i) + ")", "type", new int[] {args.charAt(i)}, null));
            }
            return;
        }
        Double answer = due.isEmpty() ? null : Double.valueOf(number(due.substring(1)));
        steps.add(new Step(told, name, numbers(name, args), answer));
    }

    private static int[] numbers(String name, String args) {
        if (args.isEmpty()) {
            return new int[0];
        }
        if (name.equals("type") && args.length() == 1) {
            return new int[] {args.charAt(0)};
        }
        String[] parts = args.split(",");
        int[] numbers = new int[parts.length];
        for (int i = 0; i < parts.length; i++) {
            numbers[i] = (int) number(parts[i]);
        }
        return numbers;
    }

    private static double number(String word) {
        switch (word) {
            case "UNKNOWN": return -1;
            case "BAD": return -2;
            case "FULL": return -3;
            case "NONE": return -5;
            case "MIN": return Integer.MIN_VALUE;
            case "MAX": return Integer.MAX_VALUE;
            default: return Double.parseDouble(word);
        }
    }

    // ---- making the run

    private void plainly() {
        x = new KiteHire();
        calls = 0;
        for (Step step : steps) {
            step.answer = answer(step);
            if (step.due != null) {
                c.due(step.told, step.answer, step.due);
            } else if (step.answer < 0) {
                c.due(step.told + " refused (0: it is not)", step.answer, 0);
            }
        }
        if (calls > MOST_CALLS) {
            c.due("calls of a run", calls, MOST_CALLS);
        }
    }

    private interface Way {
        /** Makes a step; false if it is not made in this way. */
        boolean make(Script run, Step step);
    }

    private void again(String name, Way way, String look, int states) {
        x = new KiteHire();
        calls = 0;
        for (Step step : steps) {
            if (way.make(this, step)) {
                double answer = answer(step);
                if (calls > MOST_CALLS) {
                    return;
                }
                c.due(step.told + ", " + name, answer, step.answer);
            }
        }
        if (states != ANY) {
            c.due("states of the history, " + name, x.count(16), states);
        }
        String lookAgain = look();
        if (!look.isEmpty() && !lookAgain.isEmpty()) {
            c.due("all that is told, " + name, lookAgain, look);
        }
    }

    private static boolean unlessRefused(Script run, Step step) {
        return !step.isOf(CHANGES) || step.answer >= 0;
    }

    private static boolean unlessAsked(Script run, Step step) {
        return step.isOf(CHANGES);
    }

    private static boolean undone(Script run, Step step) {
        if (step.isOf(ACTS) && step.answer >= 0) {
            run.answer(step);
            run.calls++;
            int left = run.x.undo();
            if (left < 0 || left > 3) {
                run.c.due("undo() behind " + step.told + " (0: 0 to 3 are left)", left, 0);
            }
        }
        return true;
    }

    private static boolean restored(Script run, Step step) {
        if (step.isOf(ACTS) && step.answer >= 0) {
            run.x.keep();
            run.answer(step);
            run.x.restore();
            run.calls += 2;
        }
        return true;
    }

    private static boolean askedAhead(Script run, Step step) {
        if (step.name.equals("hire")) {
            int why = (int) run.answer(new Step("why", "why", step.args, null));
            int hire = (int) step.answer;
            int due = hire >= 0 || hire == -3 ? 0 : hire <= -11 ? -10 - hire : hire;
            run.c.due("why, ahead of " + step.told, why, due);
        }
        if (step.name.equals("pass") && step.answer >= 0 && run.calls + 16 <= MOST_CALLS) {
            int[] counts = {8, 9, 10, 14, 11};
            int[] due = new int[5];
            for (int what = 0; what < 5; what++) {
                due[what] = run.x.ifPassed(step.args[0], what) + run.x.count(counts[what]);
            }
            run.answer(step);
            for (int what = 0; what < 5; what++) {
                int shift = what == 4 ? 100000 : 0;
                run.c.due("count(" + counts[what] + "), as told ahead of " + step.told,
                        run.x.count(counts[what]) + shift, due[what]);
            }
            run.x.undo();
            run.calls += 16;
        }
        return true;
    }

    private boolean looksAtHistory() {
        for (Step step : steps) {
            if (step.isOf(HISTORY) || step.asksForHistory()) {
                return true;
            }
        }
        return false;
    }

    // ---- the look at the end

    /** All that is told, but for the history and most winds; nothing, if that are too many calls. */
    private String look() {
        int kites = x.count(1);
        int spools = x.count(5);
        int needed = 3 + 22 + 14 * kites + 4 * spools + 18 + 32 + 50 + 1;
        if (calls + needed > MOST_CALLS) {
            return "";
        }
        StringBuilder look = new StringBuilder();
        for (int what = 0; what < 23; what++) {
            look.append(what == 16 ? 0 : x.count(what)).append(' ');
        }
        for (int kite = 0; kite < kites; kite++) {
            look.append("kite ").append(x.kiteOf(kite, 0)).append(' ');
            for (int what = 1; what < 7; what++) {
                look.append(x.kiteOf(kite, what)).append(' ');
            }
            int hire = x.kiteOf(kite, 7);
            look.append("hire ").append(hire).append(' ');
            for (int what = 0; what < 6 && hire >= 0; what++) {
                look.append(x.hireOf(hire, what)).append(' ');
            }
        }
        look.append("spools ");
        for (int cell = 0; cell < 4 * spools; cell++) {
            look.append(x.spoolOf(cell / 4, cell % 4)).append(' ');
        }
        look.append("tails ");
        for (int cell = 0; cell < 18; cell++) {
            look.append(x.tailsOf(cell / 3, cell % 3)).append(' ');
        }
        look.append("ended ");
        for (int cell = 0; cell < 32; cell++) {
            look.append(x.ended(cell / 4, cell % 4)).append(' ');
        }
        look.append("winds ");
        for (int hour = 0; hour < 25; hour++) {
            look.append(x.windOf(hour)).append(' ').append(x.windOf(999 - hour)).append(' ');
        }
        return look.append(x.perHour()).toString();
    }

    // ---- calls

    private double answer(Step step) {
        calls++;
        int[] a = step.args;
        switch (a.length) {
            case 0: return answer(step.name);
            case 1: return answer(step.name, a[0]);
            case 2: return answer(step.name, a[0], a[1]);
            case 3:
                if (step.name.equals("wind")) {
                    return x.wind(a[0], a[1], a[2]);
                }
                throw noCall(step.told);
            case 4: return answer(step.name, a);
            default: throw noCall(step.told);
        }
    }

    private static IllegalArgumentException noCall(String told) {
        return new IllegalArgumentException("no call: " + told);
    }

    private double answer(String name) {
        switch (name) {
            case "tellAll": return x.tellAll();
            case "clearText": return x.clearText();
            case "fault": return x.fault();
            case "undo": return x.undo();
            case "keep": return x.keep();
            case "restore": return x.restore();
            case "perHour": return x.perHour();
            default: throw noCall(name);
        }
    }

    private double answer(String name, int a) {
        switch (name) {
            case "spool": return x.spool(a);
            case "found": return x.found(a);
            case "pass": return x.pass(a);
            case "type": return x.type((char) a);
            case "windOf": return x.windOf(a);
            case "count": return x.count(a);
            case "snapsIn": return x.snapsIn(a);
            case "flyable": return x.flyable(a);
            case "dearest": return x.dearest(a);
            default: throw noCall(name);
        }
    }

    private double answer(String name, int a, int b) {
        switch (name) {
            case "tails": return x.tails(a, b);
            case "back": return x.back(a, b);
            case "set": return x.set(a, b);
            case "kiteOf": return x.kiteOf(a, b);
            case "spoolOf": return x.spoolOf(a, b);
            case "tailsOf": return x.tailsOf(a, b);
            case "hireOf": return x.hireOf(a, b);
            case "ended": return x.ended(a, b);
            case "next": return x.next(a, b);
            case "longest": return x.longest(a, b);
            case "ifPassed": return x.ifPassed(a, b);
            default: throw noCall(name);
        }
    }

    private double answer(String name, int[] a) {
        switch (name) {
            case "kite": return x.kite(a[0], a[1], a[2], a[3]);
            case "hire": return x.hire(a[0], a[1], a[2], a[3]);
            case "why": return x.why(a[0], a[1], a[2], a[3]);
            default: throw noCall(name);
        }
    }

    // ---- pieces of runs

    /** Lets any number of hours pass. */
    static String hours(int hours) {
        StringBuilder run = new StringBuilder();
        for (int left = hours; left > 0; left -= 99) {
            run.append(" pass(").append(Math.min(left, 99)).append(") ");
        }
        return run.toString();
    }

    /** The same calls several times. */
    static String times(int times, String run) {
        return (run + " ").repeat(times);
    }
}
