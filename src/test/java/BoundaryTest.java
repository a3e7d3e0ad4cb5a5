import java.util.function.Consumer;

/**
 * Each sentence of the document that names a boundary case has a test of its own here:
 * too small, too large, empty, full, a wrap-around, a refused call.
 */
public final class BoundaryTest {
    private static final int BAD = SignalProofs.BAD, NONE = SignalProofs.NONE;
    private static final int MIN = Integer.MIN_VALUE, MAX = Integer.MAX_VALUE;
    private static final String INDEX = "ArrayIndexOutOfBoundsException";
    private static final String SIZE = "NegativeArraySizeException";
    private static final String ARGUMENT = "IllegalArgumentException";

    public static void main(String[] args) {
        object();
        termsOfGroups();
        termsOfPhases();
        termsOfNumbers();
        termsOfTheMachine();
        termsOfEvents();
        termsOfEnds();
        termsOfWhatComes();
        termsOfClearing();
        termsOfFaults();
        termsOfFirstFault();
        termsOfStates();
        begin();
        clash();
        clashForgets();
        least();
        most();
        leastAndMostThrow();
        unit();
        readTakesAll();
        readTooEarly();
        readWrongSigns();
        program();
        call();
        plan();
        toldAlready();
        toldSixty();
        second();
        told();
        shown();
        prove();
        proveRefused();
        states();
        row();
        rowNoneSuch();
        longest();
        ring();
        answered();
        same();
        sameAsTold();
        from();
        Check.end();
    }

    // --- helpers ---

    private static void due(String what, long got, long want) {
        Check.due(what, got, want);
    }

    private static void due(String what, boolean got, boolean want) {
        Check.due(what, got, want);
    }

    private static void throwsIt(String what, Check.Call call, String name) {
        Check.due(what, Check.thrown(call), name);
    }

    /** Does seconds, and looks at one thing that is told behind each: none of them has a fault. */
    private static void follow(SignalProofs x, int which, int... want) {
        for (int k = 0; k < want.length; k++) {
            due("fault of second " + (k + 1) + " of these", x.second(), 0);
            due("told(" + which + ") behind second " + (k + 1) + " of these", x.told(which), want[k]);
        }
    }

    private static void tell(SignalProofs x, String what, int... want) {
        for (int which = 0; which < want.length; which++) {
            due(what + ": told(" + which + ")", x.told(which), want[which]);
        }
    }

    private static void faults(SignalProofs x, int... want) {
        for (int k = 0; k < want.length; k++) {
            due("fault of second " + (k + 1) + " of these", x.second(), want[k]);
        }
    }

    /** A crossing with signs that are collected, but with nothing told, done or proved. */
    private static SignalProofs plainOne(int verdict) {
        SignalProofs x = Make.crossing(2, "A2-3;B1-1", "B2-2");
        x.clash(0, 1, 1);
        x.least(0, 2);
        x.most(1, verdict == 0 ? 9 : 31);
        Make.collect(x, "A3-");
        return x;
    }

    /** The same crossing amid its use: seconds to come are told, one is done, there is a proof of this verdict. */
    private static SignalProofs usedOne(int verdict) {
        SignalProofs x = plainOne(verdict);
        due("call", x.call(1, 4), true);
        due("plan", x.plan(1, 6), true);
        due("prove", x.prove(verdict == 2 ? 50 : 400), verdict);
        due("second", x.second(), 0);
        return x;
    }

    private static SignalProofs usedOne() {
        return usedOne(1);
    }

    /** Everything that can be asked of an object, and then what it does: two alike ones answer alike. */
    private static String answers(SignalProofs x) {
        StringBuilder all = new StringBuilder();
        all.append(x.program()).append(' ').append(x.states()).append(' ').append(x.answered());
        for (int k = 0; k < 18; k++) {
            all.append(" t").append(x.told(k)).append(" h").append(x.shown(k)).append(" l").append(x.longest(k));
            all.append(" g").append(x.ring(k)).append(" s").append(x.same(k));
        }
        for (int k = 0; k < 21; k++) {
            all.append(" r").append(x.row(k / 7, k % 7));
        }
        all.append(x.call(0, 1)).append(x.call(1, 4)).append(x.plan(0, 6)).append(x.plan(2, 7)).append(x.call(5, 9));
        for (int k = 0; k < 12; k++) {
            all.append(" f").append(x.second());
            for (int which = 0; which < 12; which++) {
                all.append(' ').append(x.told(which));
            }
        }
        x.unit('5');
        all.append(" read ").append(x.read()).append(' ').append(x.prove(60)).append(' ').append(x.states());
        return all.toString();
    }

    /** The call on an object amid its use leaves everything as it was. */
    private static void changesNothing(String what, Consumer<SignalProofs> call) {
        for (int verdict = 0; verdict <= 2; verdict++) {
            SignalProofs x = usedOne(verdict);
            call.accept(x);
            Check.due(what + " changes nothing", answers(x), answers(usedOne(verdict)));
        }
    }

    /** Behind the call, what was done, told and proved is gone, and nothing else. */
    private static void isAsAtFirst(String what, Consumer<SignalProofs> call) {
        for (int verdict = 0; verdict <= 2; verdict++) {
            SignalProofs x = usedOne(verdict);
            call.accept(x);
            due(what + ": seconds done", x.told(0), 0);
            due(what + ": states", x.states(), 0);
            SignalProofs y = plainOne(verdict);
            call.accept(y);
            Check.due(what + " leaves a machine as at first", answers(x), answers(y));
        }
    }

    // --- what it is ---

    private static void object() {
        Check.sentence("An object is used for at most 512 calls after it has been made");
        SignalProofs x = Make.crossing(2, "A1-1;B1-1");
        int calls = 1 + 9 + 1;
        for (; calls < 509; calls++) {
            due("a second", x.second(), 0);
        }
        due("call 510", x.prove(400), 1);
        due("call 511", x.told(2), 0);
        due("call 512", x.told(0), 498);
    }

    // --- Terms ---

    private static void termsOfGroups() {
        Check.sentence("GROUPS are 0 .. n - 1 (n of 1 .. 6), in texts letters from A on");
        for (int n = 1; n <= 6; n++) {
            SignalProofs x = new SignalProofs();
            x.begin(n);
            due("the letter behind the last of " + n, Make.read(x, (char) ('A' + n) + "1-1"), -1);
            due("the last letter of " + n, Make.read(x, (char) ('A' + n - 1) + "1-1"), 1);
            due("the last group as a bit", x.told(7), 1 << (n - 1));
        }

        Check.sentence("(0, if only the other way round was told)");
        SignalProofs x = Make.crossing(2, "A1-1;B1-1");
        x.clash(0, 1, 2);
        follow(x, 4, 2, 1, 0, 0, 2);
        x = Make.crossing(2, "A1-1;B1-1");
        x.clash(1, 0, 2);
        follow(x, 4, 0, 2, 1, 0, 0);
        x = Make.crossing(2, "AB1-1");
        x.clash(1, 0, 2);
        due("they clash all the same", x.second(), 1);

        Check.sentence("Each has a LEAST time (1 at first)");
        x = Make.crossing(2, "A1-1;B1-1");
        faults(x, 0, 0, 0, 0);
        x.least(0, 2);
        faults(x, 3, 0, 3, 0);

        Check.sentence("and a MOST one (31)");
        x = Make.crossing(2, "A1-1");
        x.clash(0, 1, 0);
        x.call(1, 1);
        Make.seconds(x, 40);
        due("age", x.told(9), 31);
        due("B waits", x.told(6), 2);
        x.most(0, 30);
        x.call(1, 1);
        Make.seconds(x, 30);
        due("31 is above 30", x.second(), 4);
    }

    private static void wrongAt(int groups, String text, int sign) {
        SignalProofs x = new SignalProofs();
        x.begin(groups);
        due("read '" + text + "'", Make.read(x, text), -1 - sign);
        due("plans behind it", x.program(), 0);
    }

    private static void good(int groups, String text, int phases) {
        SignalProofs x = new SignalProofs();
        x.begin(groups);
        due("read '" + text + "'", Make.read(x, text), phases);
        due("plans behind it", x.program(), 1);
    }

    private static void termsOfPhases() {
        Check.sentence("a phase, and any number of times ; and a phase, 5 at most");
        String text = "A1-1";
        for (int phases = 1; phases <= 5; phases++) {
            good(1, text, phases);
            wrongAt(1, text + ";", text.length() + (phases < 5 ? 1 : 0));
            text = text + ";A1-1";
        }
        wrongAt(1, text, 24);
        wrongAt(1, text + ";A1-1", 24);
        SignalProofs x = Make.crossing(2, "A1-1;B1-1;A1-1;B1-1;A1-1");
        follow(x, 2, 1, 2, 3, 4, 0, 1);

        Check.sentence("A PHASE is letters of groups, rising, at least one");
        wrongAt(3, "1-1", 0);
        wrongAt(3, "A1-1;1-1", 5);
        wrongAt(3, "-1", 0);
        wrongAt(3, "AA1-1", 1);
        wrongAt(3, "ABA1-1", 2);
        wrongAt(3, "CB1-1", 1);
        good(3, "ABC1-1;AC1-1;BC1-1;A1-1", 4);
    }

    private static void termsOfNumbers() {
        Check.sentence("a number, its least time 1 .. 15");
        wrongAt(1, "A0-31", 1);
        wrongAt(1, "A16-31", 1);
        wrongAt(1, "A4294967297-31", 1);
        for (int least = 1; least <= 15; least++) {
            good(1, "A" + least + "-31", 1);
        }

        Check.sentence("a number, its most time, from the least one to 31");
        for (int least = 1; least <= 15; least++) {
            String start = "A" + least + "-";
            wrongAt(1, start + (least - 1), start.length());
            good(1, start + least, 1);
            good(1, start + 31, 1);
            wrongAt(1, start + 32, start.length());
        }
        wrongAt(1, "A1-4294967297", 3);

        Check.sentence("No blanks");
        String right = "AB1-15;C2-31";
        good(3, right, 2);
        for (int at = 0; at <= right.length(); at++) {
            wrongAt(3, right.substring(0, at) + " " + right.substring(at), at);
        }

        Check.sentence("numbers have no 0 in front");
        wrongAt(1, "A01-1", 1);
        wrongAt(1, "A00-1", 1);
        wrongAt(1, "A1-01", 3);
        wrongAt(1, "A1-031", 3);
        good(1, "A10-30", 1);

        Check.sentence("There are at most 3 plans");
        SignalProofs x = Make.crossing(1, "A1-1", "A2-2", "A3-3");
        due("three", x.program(), 3);
        due("a fourth", Make.read(x, "A4-4"), -5);
        due("three still", x.program(), 3);
    }

    private static void termsOfTheMachine() {
        Check.sentence("T (seconds for which the phase was shown, at most 31)");
        SignalProofs x = Make.crossing(2, "A1-1");
        for (int k = 1; k <= 40; k++) {
            follow(x, 3, k < 31 ? k : 31);
        }

        Check.sentence("of one that is shown how long (at most 31)");
        x = Make.crossing(3, "AB1-20;AC1-20");
        for (int k = 1; k <= 45; k++) {
            follow(x, 9, k < 31 ? k : 31);
        }
        due("T was 0 in between", x.told(3), 5);

        Check.sentence("of another one for how long it was not (at most 15)");
        x = Make.crossing(2, "A1-1;B15-31");
        follow(x, 9, 0, 1, 2, 3, 4, 5, 6, 7, 8, 9, 10, 11, 12, 13, 14, 15, 15, 15);
        due("B is shown for longer", x.told(10), 17);

        Check.sentence("While it clears, groups of both phases are shown");
        x = Make.crossing(3, "AC1-1;BC1-1");
        x.clash(0, 1, 2);
        follow(x, 7, 4, 4, 6);
        due("C's age goes on", x.told(11), 3);

        Check.sentence("At first: plan 0, phase 0, T 0, wanted plan 0, nobody waits, ages 0 and 15");
        x = Make.crossing(3, "AC2-3;B1-1", "B1-1");
        tell(x, "at first", 0, 0, 0, 0, 0, 0, 0, 5, BAD, 0, 15, 0, BAD);
        x = Make.crossing(6, "CDE2-3;ABF1-1");
        tell(x, "at first", 0, 0, 0, 0, 0, 0, 0, 28, BAD, 15, 15, 0, 0, 0, 15, BAD);
    }

    private static void termsOfEvents() {
        Check.sentence("group g calls: if it is not shown, it waits");
        SignalProofs x = Make.crossing(3, "AC1-1;BC1-9");
        x.clash(0, 1, 4);
        x.call(0, 2);
        x.call(2, 3);
        x.call(1, 4);
        follow(x, 6, 0, 1, 1, 3, 1);
        due("B has begun", x.told(7), 6);
        x = Make.crossing(2, "A1-1;B1-1");
        x.call(0, 1);
        follow(x, 6, 0);

        Check.sentence("plan p (if there is one) is wanted");
        x = Make.crossing(2, "A1-9", "A1-9", "AB1-9");
        x.clash(0, 1, 0);
        due("a fault by plan 2 alone", x.prove(400), 0);
        due("its event is 1 + n + p", x.row(0, 0), 5);
        x = Make.crossing(1, "A1-9");
        due("proved", x.prove(400), 1);
        due("plan 0 alone: T 0 .. 31", x.states(), 32);
    }

    private static void termsOfEnds() {
        Check.sentence("the phase ENDS, if T is its most time or more");
        SignalProofs x = Make.crossing(2, "A1-3;B1-1");
        follow(x, 2, 0, 0, 1, 0);
        x = Make.crossing(2, "A2-3", "B1-1");
        x.plan(1, 11);
        follow(x, 3, 1, 2, 3, 4, 5, 6, 7, 8, 9, 10, 0);
        due("plan", x.told(1), 1);

        Check.sentence("or if T is its least time or more and some group that is not in it waits");
        x = Make.crossing(2, "A3-9;B1-1");
        x.call(1, 1);
        follow(x, 2, 0, 0, 1);
        x = Make.crossing(2, "A3-9;B1-1");
        x.call(0, 4);
        x.call(1, 5);
        follow(x, 2, 0, 0, 0, 0, 1);

        Check.sentence("or another plan is wanted: what comes is phase 0 of that other plan");
        x = Make.crossing(2, "A3-9", "B1-1;A1-1");
        x.plan(1, 1);
        follow(x, 1, 0, 0, 1);
        due("phase", x.told(2), 0);
        x = Make.crossing(2, "A3-9;B1-1", "B1-1;A1-1");
        x.plan(0, 4);
        x.plan(1, 5);
        follow(x, 1, 0, 0, 0, 0, 1);
        x = Make.crossing(3, "A2-9;B1-9", "C1-9;B1-9");
        x.call(1, 1);
        x.plan(1, 2);
        follow(x, 7, 1, 4);
    }

    private static void termsOfWhatComes() {
        Check.sentence("the first phase behind it, round and round, that has a group that waits");
        SignalProofs x = Make.crossing(4, "A1-5;B1-5;C1-5;D1-5");
        x.call(3, 1);
        x.call(1, 2);
        x.call(0, 3);
        follow(x, 2, 3, 1, 0);
        x = Make.crossing(4, "A2-5;B1-5;C1-5;D1-5");
        x.call(3, 1);
        x.call(2, 2);
        follow(x, 2, 0, 2, 3);

        x = Make.crossing(3, "A1-9;B1-9;A1-9;B1-9;A1-9", "C1-9");
        x.call(2, 1);
        follow(x, 2, 1, 2, 3, 4, 0, 1);
        due("C is in another plan", x.told(1), 0);

        Check.sentence("or else the next one");
        x = Make.crossing(4, "A1-1;B1-1;C1-1");
        follow(x, 2, 1, 2, 0, 1);
        x = Make.crossing(4, "A1-9;B1-9;C1-9");
        x.call(3, 1);
        follow(x, 2, 1, 2, 0, 1);

        Check.sentence("(If that is the same phase of the same plan, it does not end.)");
        x = Make.crossing(2, "A1-2");
        x.least(0, 15);
        x.call(1, 1);
        follow(x, 3, 1, 2, 3, 4);
        due("A is shown", x.told(7), 1);
        x = Make.crossing(1, "A1-2", "A1-2");
        x.plan(1, 3);
        follow(x, 3, 1, 2, 0, 1);
        x = Make.crossing(1, "A1-1;A1-1");
        follow(x, 2, 1, 0, 1);
        due("A is shown all the time", x.told(9), 3);
    }

    private static void termsOfClearing() {
        Check.sentence("it clears for the greatest of the seconds between the end of one and the beginning of another");
        SignalProofs x = Make.crossing(5, "AB1-1;CD1-1");
        x.clash(0, 2, 3);
        x.clash(1, 3, 7);
        x.clash(1, 2, 5);
        x.clash(3, 0, 9);
        x.clash(1, 4, 11);
        follow(x, 4, 7, 6);
        x = Make.crossing(2, "A1-1;B1-1");
        x.clash(0, 1, 15);
        follow(x, 4, 15, 14, 13, 12, 11, 10, 9, 8, 7, 6, 5, 4, 3, 2, 1, 0);
        due("B begins at 0", x.told(7), 2);

        Check.sentence("groups that are not in the one that comes; a group that comes and was not in it");
        x = Make.crossing(4, "ABD1-1;ABC1-1");
        x.clash(0, 1, 9);
        x.clash(3, 0, 9);
        x.clash(1, 2, 9);
        x.clash(3, 2, 2);
        due("A and B clash", x.second(), 1);
        due("from D to C alone", x.told(4), 2);
        due("D's age", x.told(12), 0);
        due("A's age", x.told(9), 1);

        Check.sentence("(0 if they do not clash); if that is 0, the phase that comes begins at once");
        x = Make.crossing(2, "A1-1;B1-1");
        follow(x, 7, 2, 1);
        x.clash(0, 1, 0);
        x.clash(1, 0, 1);
        follow(x, 7, 2, 0, 1);

        Check.sentence("When a phase begins, T is 0, its groups that were not shown have age 0, none of its groups waits");
        x = Make.crossing(3, "AB3-9;BC1-9");
        x.clash(0, 2, 1);
        x.call(2, 1);
        x.call(0, 4);
        Make.seconds(x, 3);
        tell(x, "it clears", 3, 0, 0, 3, 1, 0, 4, 2, BAD, 0, 3, 15, BAD);
        Make.seconds(x, 1);
        tell(x, "C begins", 4, 0, 1, 0, 0, 0, 1, 6, BAD, 1, 4, 0, BAD);
    }

    private static void termsOfFaults() {
        Check.sentence("1 two groups that clash are shown (behind it)");
        SignalProofs x = Make.crossing(3, "A1-1;BC1-1;C1-1");
        x.clash(1, 2, 0);
        faults(x, 1, 0, 0, 1);
        x = Make.crossing(3, "AB1-1;A1-1;AB2-2");
        x.clash(0, 1, 0);
        faults(x, 0, 1, 1, 1, 0);
        x = Make.crossing(4, "ABCD1-1");
        x.clash(1, 2, 0);
        faults(x, 1, 1);

        Check.sentence("2 a group began, though one that clashes with it is not shown and has an age below the seconds");
        x = Make.crossing(3, "A1-1;C2-2;B1-1");
        x.clash(0, 1, 2);
        faults(x, 0, 0, 0);
        x.clash(0, 1, 3);
        faults(x, 0, 0, 2, 0);
        x.clash(0, 1, 0);
        x.clash(1, 0, 15);
        faults(x, 0, 0, 0);
        x = Make.crossing(4, "A1-1;C1-1;BD3-3");
        x.clash(0, 1, 9);
        faults(x, 0, 2, 0, 0, 0);
        x = Make.crossing(4, "B1-1;C1-1;AD3-3");
        x.clash(1, 0, 9);
        faults(x, 0, 2, 0, 0, 0);
        x = Make.crossing(3, "A1-1;C14-14;B1-1");
        x.clash(0, 1, 15);
        Make.seconds(x, 14);
        due("age 14 is below 15", x.second(), 2);
        x = Make.crossing(3, "A1-1;C15-20;B1-1");
        x.clash(0, 1, 15);
        Make.seconds(x, 20);
        due("age 15 stands for all above", x.second(), 0);

        Check.sentence("3 a group ended whose age, before it became 0, was below its least time");
        x = Make.crossing(2, "A3-3;B1-1");
        x.least(0, 3);
        faults(x, 0, 0, 0);
        x.least(0, 4);
        faults(x, 0, 0, 3);
        x = Make.crossing(3, "AB1-1;AC1-1;B1-1");
        x.least(0, 2);
        faults(x, 0, 0);
        x.least(0, 3);
        faults(x, 0, 3);

        Check.sentence("4 a group is shown with an age above its most time, and one that clashes with it waits");
        x = Make.crossing(3, "A9-9;B1-1");
        x.clash(0, 1, 0);
        x.most(0, 5);
        faults(x, 0, 0, 0, 0, 0, 0, 0, 0, 0);
        x.most(0, 5);
        x.call(1, 1);
        faults(x, 0, 0, 0, 0, 0, 4, 4, 4, 0);
        x.most(0, 5);
        x.call(2, 1);
        faults(x, 0, 0, 0, 0, 0, 0, 0, 0, 0);
        x.most(0, 5);
        x.call(1, 8);
        faults(x, 0, 0, 0, 0, 0, 0, 0, 4, 0);

        x = Make.crossing(4, "AB9-9;C1-1");
        x.clash(0, 2, 0);
        x.most(0, 1);
        x.call(2, 1);
        faults(x, 0, 4, 4);
    }

    private static void termsOfFirstFault() {
        Check.sentence("FAULTS of a second, the first that holds");
        SignalProofs x = Make.crossing(4, "A1-1;C1-1;BD1-1");
        x.clash(0, 1, 9);
        x.clash(1, 3, 0);
        faults(x, 0, 1);
        x = Make.crossing(3, "A1-1;BC1-1");
        x.least(0, 5);
        x.clash(1, 2, 0);
        faults(x, 1);
        x = Make.crossing(3, "AB5-9");
        x.clash(0, 1, 0);
        x.clash(0, 2, 0);
        x.most(0, 1);
        x.call(2, 1);
        faults(x, 1, 1);
        x = Make.crossing(3, "A1-1;C1-1;B1-1");
        x.clash(0, 1, 9);
        x.least(2, 5);
        faults(x, 0, 2);
        x = Make.crossing(5, "AD1-1;CD1-1;BD1-9");
        x.clash(0, 1, 9);
        x.clash(3, 4, 0);
        x.most(3, 1);
        x.call(4, 1);
        faults(x, 0, 2, 4);
        x = Make.crossing(4, "AC2-2;BC1-1");
        x.least(0, 5);
        x.most(2, 1);
        x.clash(2, 3, 0);
        x.call(3, 1);
        faults(x, 0, 3, 4);
    }

    private static void termsOfStates() {
        Check.sentence("STATES are all that machines can be: equal ones are one");
        SignalProofs x = Make.crossing(1, "A1-2");
        due("proved", x.prove(400), 1);
        for (int k = 1; k <= 40; k++) {
            follow(x, 8, k < 31 ? k : 31);
        }

        Check.sentence("They are found, from the first one on, by the events in their order, behind seconds without a fault");
        x = Make.crossing(3, "A9-9");
        x.prove(400);
        due("the first one", x.told(8), 0);
        x.call(2, 1);
        follow(x, 8, 3);
        x.least(0, 1);
        x.prove(400);
        x.call(1, 1);
        follow(x, 8, 2);
        x.least(0, 1);
        x.prove(400);
        x.call(0, 1);
        follow(x, 8, 1, 4);
        x = Make.crossing(2, "A2-2;B1-1");
        x.least(0, 3);
        due("faulty", x.prove(400), 0);
        x.second();
        x.second();
        due("what is behind a fault is not found", x.told(8), BAD);
    }

    // --- promises 1 to 5 ---

    private static void begin() {
        Check.sentence("SignalProofs(): As behind begin(1)");
        SignalProofs x = new SignalProofs();
        x.begin(1);
        Check.due("a new object", answers(new SignalProofs()), answers(x));

        Check.sentence("So many groups; nothing clashes, no plans, no text, nothing told or proved");
        x = usedOne();
        x.begin(2);
        SignalProofs y = new SignalProofs();
        y.begin(2);
        due("no plans", x.program(), 0);
        Check.due("begun anew", answers(x), answers(y));
        x = usedOne();
        x.begin(2);
        Make.read(x, "A1-1;B1-1;AB1-1");
        y.begin(2);
        Make.read(y, "A1-1;B1-1;AB1-1");
        Check.due("begun anew, with a plan", answers(x), answers(y));

        Check.sentence("Below 0: negative size");
        for (int groups : new int[] {-1, -2, -6, -65536, MIN}) {
            throwsIt("begin(" + groups + ")", () -> usedOne().begin(groups), SIZE);
        }

        Check.sentence("0 or above 6: illegal argument");
        for (int groups : new int[] {0, 7, 8, 65537, MAX}) {
            throwsIt("begin(" + groups + ")", () -> usedOne().begin(groups), ARGUMENT);
        }
        for (int groups = 1; groups <= 6; groups++) {
            int n = groups;
            throwsIt("begin(" + n + ")", () -> usedOne().begin(n), "nothing");
        }

        Check.sentence("nothing is changed");
        for (int groups : new int[] {MIN, -1, 0, 7, MAX}) {
            changesNothing("begin(" + groups + ")", z -> Check.thrown(() -> z.begin(groups)));
        }
    }

    private static void clash() {
        Check.sentence("with so many seconds (0 .. 15)");
        for (int seconds : new int[] {MIN, -1, 16, 17, 1 << 16, MAX}) {
            due("clash by " + seconds, usedOne().clash(0, 1, seconds), false);
            changesNothing("clash by " + seconds, x -> x.clash(1, 0, seconds));
        }
        for (int seconds = 0; seconds <= 15; seconds++) {
            SignalProofs x = Make.crossing(2, "A1-1;B1-1");
            due("clash by " + seconds, x.clash(0, 1, seconds), true);
            x.second();
            due("clearing", x.told(4), seconds);
        }

        // what was told of A and B stays when A and C are told, whichever way round
        int[][] orders = {{0, 1, 0, 2}, {1, 0, 2, 0}, {0, 1, 2, 0}, {1, 0, 0, 2}};
        for (int[] o : orders) {
            for (int waiting = 1; waiting <= 3; waiting++) {
                SignalProofs x = Make.crossing(4, "A3-3");
                x.clash(o[0], o[1], 0);
                x.clash(o[2], o[3], 0);
                x.most(0, 1);
                x.call(waiting, 1);
                x.second();
                due("A clashes with B and with C, not with D", x.second(), waiting < 3 ? 4 : 0);
            }
        }

        Check.sentence("False: they are the same, no such number");
        for (int g = 0; g < 2; g++) {
            int group = g;
            due("clash with itself", usedOne().clash(g, g, 1), false);
            changesNothing("clash with itself", x -> x.clash(group, group, 1));
        }

        Check.sentence("A group that there is not (the first one is looked at first) throws, before all else");
        int[][] wrong = {{2, 0, 1}, {0, 2, 1}, {-1, 0, 1}, {0, -1, 1}, {2, 2, 1}, {MIN, MIN, 1}, {MAX, 1, 1}, {1, MAX, 1},
            {2, 0, 16}, {0, -1, -1}, {6, 6, 99}};
        for (int[] w : wrong) {
            throwsIt("clash " + w[0] + " " + w[1] + " " + w[2], () -> usedOne().clash(w[0], w[1], w[2]), INDEX);
            changesNothing("clash that throws", x -> Check.thrown(() -> x.clash(w[0], w[1], w[2])));
        }
    }

    private static void clashForgets() {
        Check.sentence("What was proved, and told for seconds to come, is gone, and the machine is as at first");
        isAsAtFirst("clash", x -> x.clash(0, 1, 2));
        isAsAtFirst("least", x -> x.least(0, 1));
        isAsAtFirst("most", x -> x.most(0, 3));
        isAsAtFirst("a read that reads", x -> {
            x.unit('4');
            due("phases", x.read(), 1);
        });

        SignalProofs clearing = Make.crossing(2, "A1-1;B1-1");
        clearing.clash(0, 1, 5);
        follow(clearing, 4, 5, 4);
        clearing.least(0, 1);
        tell(clearing, "amid clearing", 0, 0, 0, 0, 0, 0, 0, 1, BAD, 0, 15, BAD);
        clearing.prove(400);
        due("the first state", clearing.told(8), 0);
        follow(clearing, 4, 5, 4);

        Check.sentence("(.. also if nothing is another then)");
        isAsAtFirst("clash as it was", x -> x.clash(0, 1, 1));
        isAsAtFirst("least as it was", x -> x.least(0, 2));
        isAsAtFirst("most as it was", x -> x.most(0, 31));

        Check.sentence("a read() that reads a plan: another one leaves the machine alone");
        SignalProofs x = usedOne();
        due("too early", x.read(), -4);
        due("seconds", x.told(0), 1);
        due("states", x.states(), usedOne().states());
        due("told", x.call(0, 4), false);
    }

    private static void least() {
        Check.sentence("A least time, 1 .. 15. False: none such");
        for (int seconds : new int[] {MIN, -1, 0, 16, 31, MAX}) {
            due("least " + seconds, usedOne().least(0, seconds), false);
            changesNothing("least " + seconds, x -> x.least(1, seconds));
        }
        for (int seconds = 1; seconds <= 15; seconds++) {
            SignalProofs x = Make.crossing(2, "A" + seconds + "-" + seconds + ";B1-1");
            due("least " + seconds, x.least(0, seconds), true);
            Make.seconds(x, seconds);
            due("one more", x.least(0, seconds + 1), seconds < 15);
        }
    }

    private static void most() {
        Check.sentence("A most time, 1 .. 31. False: none such");
        for (int seconds : new int[] {MIN, -1, 0, 32, 33, MAX}) {
            due("most " + seconds, usedOne().most(0, seconds), false);
            changesNothing("most " + seconds, x -> x.most(1, seconds));
        }
        for (int seconds = 1; seconds <= 31; seconds++) {
            SignalProofs x = Make.crossing(2, "A1-1");
            x.clash(0, 1, 0);
            due("most " + seconds, x.most(0, seconds), true);
            x.call(1, 1);
            Make.seconds(x, seconds);
            due("above it", x.second(), seconds < 31 ? 4 : 0);
        }
    }

    private static void leastAndMostThrow() {
        Check.sentence("least, most: throws ArrayIndexOutOfBoundsException");
        for (int group : new int[] {MIN, -1, 2, 5, 6, MAX}) {
            throwsIt("least of " + group, () -> usedOne().least(group, 1), INDEX);
            throwsIt("least of " + group + " by a wrong number", () -> usedOne().least(group, 0), INDEX);
            throwsIt("most of " + group, () -> usedOne().most(group, 1), INDEX);
            throwsIt("most of " + group + " by a wrong number", () -> usedOne().most(group, 0), INDEX);
            changesNothing("least that throws", x -> Check.thrown(() -> x.least(group, 1)));
            changesNothing("most that throws", x -> Check.thrown(() -> x.most(group, 1)));
        }
    }

    // --- promises 6 to 8 ---

    private static void unit() {
        Check.sentence("A sign of 32 .. 126 is collected. False: another one");
        for (int u : new int[] {MIN, -1, 0, 31, 127, 128, 255, 256 + 65, 65536 + 65, MAX}) {
            due("unit " + u, usedOne().unit(u), false);
            changesNothing("unit " + u, x -> x.unit(u));
        }
        SignalProofs x = new SignalProofs();
        due("32", x.unit(32), true);
        due("126", x.unit(126), true);

        Check.sentence("at most 60. False: no room");
        x = new SignalProofs();
        x.begin(6);
        Make.collect(x, "ABCDEF15-31;ABCDEF15-31;ABCDEF15-31;ABCDEF15-31;ABCDEF15-31");
        due("sign 60", x.unit(';'), true);
        due("sign 61", x.unit('A'), false);
        due("sign 61 again", x.unit('~'), false);
        due("60 were collected", x.read(), -60);
        due("room again", x.unit('A'), true);
        x = new SignalProofs();
        Make.collect(x, "A" + "1".repeat(59));
        due("no room", x.unit('-'), false);
        due("a number of 59 digits is too great", x.read(), -2);
    }

    private static void readTakesAll() {
        Check.sentence("What was collected becomes one more plan, and is gone");
        SignalProofs x = new SignalProofs();
        due("phases", Make.read(x, "A1-1;A2-2"), 2);
        due("it is gone", x.read(), -1);
        due("a wrong one", Make.read(x, "A1"), -3);
        due("it is gone too", Make.read(x, "-1"), -1);
        Make.read(x, "A1-1");
        Make.read(x, "A1-1");
        due("one too many", Make.read(x, "A1-1"), -5);
        due("it is gone too", x.read(), -1);
    }

    private static void readTooEarly() {
        Check.sentence("if it ends too early, the one behind the last");
        String text = "AB12-31;C2-2";
        for (int length = 0; length < text.length(); length++) {
            String start = text.substring(0, length);
            boolean whole = start.equals("AB12-31");
            // 3 is a number, and is too small, whatever might come behind it
            boolean small = start.equals("AB12-3");
            if (!whole) {
                wrongAt(3, start, small ? 5 : length);
            }
        }

        Check.sentence("or there are 3 plans, the one behind the last");
        SignalProofs x = Make.crossing(2, "A1-1", "B1-1", "AB1-1");
        x.second();
        x.call(0, 5);
        for (String right : new String[] {"", "A1-1", "AB15-31", "A1-1;B1-1;A1-1;B1-1;A1-1"}) {
            due("read '" + right + "'", Make.read(x, right), -1 - right.length());
        }
        due("plans", x.program(), 3);
        due("the machine is left alone", x.told(0), 1);
        due("what is told too", x.call(0, 5), false);
    }

    private static void readWrongSigns() {
        Check.sentence("a number that is too great, or too small: its first digit");
        wrongAt(2, "AB16-20", 2);
        wrongAt(2, "AB100-200", 2);
        wrongAt(2, "AB0-20", 2);
        wrongAt(2, "AB5-32", 4);
        wrongAt(2, "AB5-311", 4);
        wrongAt(2, "AB5-4", 4);
        wrongAt(2, "AB15-14;", 5);
        wrongAt(2, "A1-1;B16-16", 6);
        wrongAt(2, "A1-1;B5-40", 8);

        Check.sentence("a letter that does not rise, or is no group: itself");
        wrongAt(2, "BA1-1", 1);
        wrongAt(2, "AA1-1", 1);
        wrongAt(2, "AC1-1", 1);
        wrongAt(2, "C1-1", 0);
        wrongAt(2, "Z1-1", 0);
        wrongAt(2, "A1-1;ABB1-1", 7);
        wrongAt(2, "a1-1", 0);
        wrongAt(2, "@1-1", 0);

        Check.sentence("its first sign that is wrong");
        wrongAt(2, "A1-1x", 4);
        wrongAt(2, "A1-1,B1-1", 4);
        wrongAt(2, "A1-1;;B1-1", 5);
        wrongAt(2, ";A1-1", 0);
        wrongAt(2, "A-1", 1);
        wrongAt(2, "A1:1", 2);
        wrongAt(2, "A1--1", 3);
        wrongAt(2, "A1-+1", 3);
        wrongAt(2, "C0-99;;", 0);
        wrongAt(2, "A0-99;;", 1);
        wrongAt(2, "A1-99;;", 3);
    }

    private static void program() {
        Check.sentence("How many plans there are");
        SignalProofs x = new SignalProofs();
        for (int plans = 0; plans <= 4; plans++) {
            due("program", x.program(), plans < 3 ? plans : 3);
            x.read();
            due("behind an empty text", x.program(), plans < 3 ? plans : 3);
            Make.read(x, "A1-1");
        }
        x.begin(1);
        due("behind begin", x.program(), 0);
    }

    // --- promises 9 to 13 ---

    private static void call() {
        Check.sentence("(counted from 1 on) a group calls. False: none such, that second was");
        for (int group : new int[] {MIN, -1, 2, 3, 6, MAX}) {
            due("call of " + group, usedOne().call(group, 9), false);
            changesNothing("call of " + group, x -> x.call(group, 9));
        }
        for (int second : new int[] {MIN, -1, 0, 1}) {
            due("call in " + second, usedOne().call(0, second), false);
            changesNothing("call in " + second, x -> x.call(0, second));
            due("plan in " + second, usedOne().plan(0, second), false);
            changesNothing("plan in " + second, x -> x.plan(0, second));
        }
        SignalProofs x = Make.crossing(2, "A1-1;B3-9");
        due("second 1 is to come", x.call(1, 1), true);
        due("second MAX is to come", x.call(1, MAX), true);
        Make.seconds(x, 1);
        due("second 1 was", x.call(0, 1), false);
        due("second 2 is to come", x.call(0, 2), true);
        follow(x, 6, 1);
    }

    private static void plan() {
        Check.sentence("In a second to come a plan is wanted. False: as above");
        for (int p : new int[] {MIN, -1, 2, 3, MAX}) {
            due("plan " + p, usedOne().plan(p, 9), false);
            changesNothing("plan " + p, y -> y.plan(p, 9));
        }
        SignalProofs x = Make.crossing(1, "A9-9", "A9-9", "A9-9");
        due("plan 2", x.plan(2, 1), true);
        due("plan 0", x.plan(0, 2), true);
        due("plan in second MAX", x.plan(0, MAX), true);
        follow(x, 5, 2, 0);
        x.begin(1);
        due("no plan yet", x.plan(0, 1), false);
    }

    private static void toldAlready() {
        Check.sentence("something was told for it");
        SignalProofs x = Make.crossing(2, "A9-9;B9-9", "A9-9");
        due("a call", x.call(1, 1), true);
        due("a plan", x.plan(1, 2), true);
        due("a call behind a call", x.call(1, 1), false);
        due("a plan behind a call", x.plan(1, 1), false);
        due("a call behind a plan", x.call(1, 2), false);
        due("a plan behind a plan", x.plan(0, 2), false);
        follow(x, 5, 0, 1);
        due("B waits since second 1", x.told(6), 2);
    }

    private static void toldSixty() {
        Check.sentence("60 are told");
        SignalProofs x = Make.crossing(2, "A15-31");
        for (int k = 1; k <= 60; k++) {
            due("telling " + k, k % 2 == 0 ? x.call(0, 10 * k) : x.plan(0, 10 * k), true);
        }
        due("call 61", x.call(1, 1), false);
        due("plan 61", x.plan(0, 1), false);
        follow(x, 6, 0);
        x.most(0, 31);
        due("none is told now", x.call(1, 1), true);
        follow(x, 6, 2);
    }

    private static void second() {
        Check.sentence("The machine does a second: its fault. BAD: it has no plan");
        SignalProofs x = new SignalProofs();
        due("second of a new one", x.second(), BAD);
        x.begin(3);
        due("second behind begin", x.second(), BAD);
        due("second again", x.second(), BAD);
        due("no second was done: 1 is to come", x.call(0, 1), true);
        Make.read(x, "A1-1");
        due("second with a plan", x.second(), 0);
        due("done", x.told(0), 1);
    }

    private static void told() {
        Check.sentence("the number of its state among those found (BAD, if it is none)");
        SignalProofs x = Make.crossing(1, "A1-2");
        due("no proof", x.told(8), BAD);
        x.prove(2);
        due("the first of two", x.told(8), 0);
        follow(x, 8, 1, BAD);
        x.prove(3);
        due("the last of three", x.told(8), 2);
        x.prove(1);
        due("not the only one", x.told(8), BAD);
        x.least(0, 1);
        due("the first one, but no proof", x.told(8), BAD);
        x.prove(1);
        due("the only one", x.told(8), 0);
        x.prove(0);
        due("gone", x.told(8), BAD);

        Check.sentence("9 and on the ages. BAD: no plan, none such");
        for (int n = 1; n <= 6; n++) {
            x = new SignalProofs();
            x.begin(n);
            for (int which = -1; which <= 16; which++) {
                due("told(" + which + ") without a plan", x.told(which), BAD);
            }
            Make.read(x, "A1-1");
            due("the last age of " + n, x.told(8 + n), n == 1 ? 0 : 15);
            for (int which : new int[] {MIN, -9, -1, 9 + n, 10 + n, 100, MAX}) {
                due("told(" + which + ")", x.told(which), BAD);
            }
        }
    }

    private static void shown() {
        Check.sentence("Whether a group is shown (1 or 0). BAD: none such, no plan");
        for (int n = 1; n <= 6; n++) {
            SignalProofs x = new SignalProofs();
            x.begin(n);
            due("shown(0) without a plan", x.shown(0), BAD);
            Make.read(x, (char) ('A' + n - 1) + "1-1");
            due("the last one", x.shown(n - 1), 1);
            due("the first one", x.shown(0), n == 1 ? 1 : 0);
            for (int group : new int[] {MIN, -32, -1, n, 6, 31, 32, 32 + n - 1, MAX}) {
                due("shown(" + group + ")", x.shown(group), BAD);
            }
        }
    }

    // --- promises 14 to 16 ---

    private static void prove() {
        Check.sentence("The proof over all states, at most so many (1 .. 400): 1 all were found; 2 there are more");
        SignalProofs x = Make.crossing(1, "A1-2");
        due("as many as there are", x.prove(32), 1);
        due("states", x.states(), 32);
        due("one less", x.prove(31), 2);
        due("states", x.states(), 31);
        due("1", x.prove(1), 2);
        due("states", x.states(), 1);
        due("400", x.prove(400), 1);
        due("states", x.states(), 32);
        x = Make.crossing(3, "A1-14;B4-4");
        x.clash(0, 1, 3);
        due("400 states", x.prove(400), 1);
        due("states", x.states(), 400);
        due("one less", x.prove(399), 2);
        due("states", x.states(), 399);
        x = Make.crossing(3, "A1-14;B4-5");
        x.clash(0, 1, 3);
        due("401 states", x.prove(400), 2);
        due("states", x.states(), 400);

        Check.sentence("0 there is one: the first that is met");
        x = Make.crossing(2, "AB1-3");
        x.clash(0, 1, 0);
        due("in the first second of all", x.prove(1), 0);
        due("states", x.states(), 1);
        x = Make.crossing(2, "A2-3;B1-1");
        x.least(0, 3);
        due("behind four states", x.prove(4), 0);
        due("states", x.states(), 4);
        x.most(0, 31);
        due("behind the limit", x.prove(3), 2);
    }

    private static void proveRefused() {
        Check.sentence("BAD: another number, no plan: what was proved is gone");
        for (int states : new int[] {MIN, -1, 0, 401, 65536 + 1, MAX}) {
            SignalProofs y = usedOne();
            due("prove(" + states + ")", y.prove(states), BAD);
            due("states", y.states(), 0);
            due("the state's number", y.told(8), BAD);
            due("same", y.same(0), false);
            due("the machine is left alone", y.told(0), 1);
            due("so is what is told", y.call(0, 4), false);
        }
        SignalProofs x = new SignalProofs();
        due("no plan", x.prove(1), BAD);
        due("no plan", x.prove(400), BAD);
    }

    private static void states() {
        Check.sentence("How many states were found (0 without a proof)");
        SignalProofs x = new SignalProofs();
        due("a new one", x.states(), 0);
        x = Make.crossing(1, "A1-2");
        due("with a plan", x.states(), 0);
        x.prove(400);
        due("proved", x.states(), 32);
        x.least(0, 1);
        due("gone by least", x.states(), 0);
        x.prove(400);
        Make.read(x, "A1-1");
        due("gone by read", x.states(), 0);
        x.prove(400);
        x.begin(1);
        due("gone by begin", x.states(), 0);
    }

    private static void rowIs(SignalProofs x, int k, int... want) {
        for (int what = 0; what < want.length; what++) {
            due("row(" + k + ", " + what + ")", x.row(k, what), want[what]);
        }
    }

    /** A crossing with a proof of 0, whose row has three seconds. */
    private static SignalProofs threeSeconds() {
        SignalProofs x = Make.crossing(3, "A1-9;B2-9;C1-9");
        x.clash(0, 2, 9);
        due("faulty", x.prove(400), 0);
        return x;
    }

    private static void row() {
        Check.sentence("The row of seconds to the fault: of second k, from 0 on");
        SignalProofs x = threeSeconds();
        rowIs(x, 0, 2, 0, 1, 2, 0, 0, 0);
        rowIs(x, 1, 0, 0, 1, 2, 0, 0, 0);
        rowIs(x, 2, 3, 0, 2, 4, 0, 0, 2);
        SignalProofs two = Make.crossing(2, "A2-3;B1-1");
        two.clash(0, 1, 1);
        two.least(0, 3);
        SignalProofs last = Make.crossing(2, "A1-1", "A1-1", "A1-1;A1-1;A1-1;A1-1;AB1-1");
        last.clash(0, 1, 0);
        for (int times = 0; times < 2; times++) {
            due("a fault", two.prove(400), 0);
            rowIs(two, 0, 0, 0, 0, 1, 0, 0, 0);
            rowIs(two, 1, 2, 0, 0, 0, 1, 2, 3);
            rowIs(two, 2, BAD, BAD, BAD, BAD, BAD, BAD, BAD);
            due("a fault in the last phase of the last plan", last.prove(400), 0);
            rowIs(last, 0, 5, 2, 0, 1, 0, 0, 0);
            rowIs(last, 1, 2, 2, 4, 3, 0, 0, 1);
            rowIs(last, 2, BAD, BAD, BAD, BAD, BAD, BAD, BAD);
        }
        SignalProofs six = Make.crossing(6, "A4-4;F3-3");
        six.clash(0, 5, 0);
        six.most(0, 2);
        due("a fault by the last group", six.prove(400), 0);
        rowIs(six, 0, 0, 0, 0, 1, 0, 0, 0);
        rowIs(six, 1, 0, 0, 0, 1, 0, 0, 0);
        rowIs(six, 2, 6, 0, 0, 1, 0, 32, 4);
        SignalProofs one = Make.crossing(2, "AB1-3");
        one.clash(0, 1, 0);
        one.prove(400);
        due("a row of one second", one.row(0, 6), 1);
        due("no second one", one.row(1, 6), BAD);
    }

    private static void rowNoneSuch() {
        Check.sentence("BAD: none such");
        SignalProofs x = threeSeconds();
        for (int what = 0; what < 7; what++) {
            for (int k : new int[] {MIN, -1, 3, 4, 400, MAX}) {
                due("row(" + k + ", " + what + ")", x.row(k, what), BAD);
            }
        }
        for (int k = 0; k < 3; k++) {
            for (int what : new int[] {MIN, -1, 7, 8, MAX}) {
                due("row(" + k + ", " + what + ")", x.row(k, what), BAD);
            }
        }

        Check.sentence("BAD: the last proof was not 0");
        x.prove(1);
        due("it was 2", x.row(0, 0), BAD);
        x.prove(400);
        due("it was 0", x.row(0, 0), 2);
        x.prove(0);
        due("it is gone", x.row(0, 0), BAD);
        x.prove(400);
        x.clash(0, 2, 2);
        due("gone by clash", x.row(0, 0), BAD);
        due("proved now", x.prove(400) != 0, true);
        due("it was not 0", x.row(0, 0), BAD);
        due("a new one", new SignalProofs().row(0, 0), BAD);
    }

    // --- promises 17 to 21 ---

    private static void longest() {
        Check.sentence("For how many seconds a group can wait at most. 0: it never waits; - 1: without end");
        SignalProofs x = Make.crossing(3, "A1-1;B2-2");
        due("proved", x.prove(400), 1);
        due("A: at T 1 of B", x.longest(0), 1);
        due("B: never", x.longest(1), 0);
        due("C: without end", x.longest(2), -1);

        SignalProofs slow = Make.crossing(2, "A1-1;B1-1");
        slow.clash(0, 1, 15);
        due("proved", slow.prove(400), 1);
        due("A: 14 of clearing, 1 of B", slow.longest(0), 15);
        due("B: 15 of clearing", slow.longest(1), 15);
        slow.clash(1, 0, 15);
        due("proved", slow.prove(400), 1);
        due("A: 14 of clearing, 1 of B, 15 of clearing", slow.longest(0), 30);
        due("B: 14 of clearing, 1 of A, 15 of clearing", slow.longest(1), 30);
        SignalProofs six = Make.crossing(6, "A4-4;F3-3");
        six.least(0, 4);
        six.least(5, 3);
        due("proved", six.prove(400), 1);
        int[] waits = {2, -1, -1, -1, -1, 3};
        for (int g = 0; g < 6; g++) {
            due("group " + g + " of six", six.longest(g), waits[g]);
        }

        Check.sentence("NONE: the last proof was not 1, no such group");
        for (int group : new int[] {MIN, -1, 3, 6, MAX}) {
            due("longest(" + group + ")", x.longest(group), NONE);
        }
        due("ring", x.ring(0), 2);
        x.prove(3);
        noProofOf1(x, "it was 2");
        x.prove(400);
        x.prove(401);
        noProofOf1(x, "it is gone");
        x.prove(400);
        x.most(0, 31);
        noProofOf1(x, "gone by most");
        x.least(1, 3);
        due("faulty", x.prove(400), 0);
        noProofOf1(x, "it was 0");
        noProofOf1(new SignalProofs(), "a new one");
    }

    private static void ring() {
        Check.sentence("The k-th group that can wait without end. BAD: none such");
        SignalProofs x = Make.crossing(4, "B1-2");
        due("proved", x.prove(400), 1);
        int[] rings = {0, 2, 3, BAD, BAD};
        for (int k = 0; k < rings.length; k++) {
            due("ring(" + k + ")", x.ring(k), rings[k]);
        }
        for (int k : new int[] {MIN, -1, 6, MAX}) {
            due("ring(" + k + ")", x.ring(k), BAD);
        }
        x = Make.crossing(6, "A2-2;F3-3");
        due("proved", x.prove(400), 1);
        for (int k = 0; k <= 6; k++) {
            due("ring(" + k + ") of six", x.ring(k), k < 4 ? k + 1 : BAD);
        }
        x.begin(2);
        Make.read(x, "A1-1;B1-1");
        due("proved", x.prove(400), 1);
        due("of two groups, nobody", x.ring(0), BAD);
    }

    private static void answered() {
        Check.sentence("Whether the last proof was 1 and nobody can wait without end");
        SignalProofs x = Make.crossing(4, "B1-2");
        due("proved", x.prove(400), 1);
        due("three can", x.answered(), false);
        x = Make.crossing(2, "A1-1");
        due("proved", x.prove(400), 1);
        due("one can", x.answered(), false);
        x = Make.crossing(2, "A1-1;B2-2");
        x.prove(400);
        due("nobody can", x.answered(), true);
        due("nobody can", x.ring(0), BAD);
        due("proved again", x.prove(400), 1);
        due("still nobody", x.answered(), true);
    }

    private static void noProofOf1(SignalProofs x, String why) {
        for (int g = 0; g < 3; g++) {
            due("longest: " + why, x.longest(g), NONE);
            due("ring: " + why, x.ring(g), BAD);
        }
        due("answered: " + why, x.answered(), false);
    }

    private static void same() {
        Check.sentence("for so many seconds more (0 .. 100). False also: another number");
        SignalProofs x = Make.crossing(2, "A2-3;B1-1");
        due("proved", x.prove(400), 1);
        due("0", x.same(0), true);
        due("1", x.same(1), true);
        due("100", x.same(100), true);
        for (int seconds : new int[] {MIN, -1, 101, 65536, MAX}) {
            due("same(" + seconds + ")", x.same(seconds), false);
        }
        Make.seconds(x, 200);
        due("100 more, from 200 on", x.same(100), true);

        Check.sentence("is in states that were found");
        x = Make.crossing(1, "A1-2");
        due("1 state", x.prove(1), 2);
        due("T 0", x.same(0), true);
        due("T 1 is another one", x.same(1), false);
        due("31 states", x.prove(31), 2);
        due("T 0 .. 30", x.same(30), true);
        due("T 31 is none of them", x.same(31), false);
        Make.seconds(x, 30);
        due("at T 30", x.same(0), true);
        due("at T 30, one more", x.same(1), false);
    }

    private static void sameAsTold() {
        Check.sentence("by what was told, without faults");
        SignalProofs x = Make.crossing(2, "A2-3;B1-1");
        x.least(0, 3);
        due("faulty", x.prove(400), 0);
        x.call(1, 2);
        due("up to the fault", x.same(1), true);
        due("the fault", x.same(2), false);
        x = Make.crossing(2, "A3-9", "B1-1");
        x.least(0, 9);
        due("faulty", x.prove(400), 0);
        due("without another plan", x.same(3), true);
        x.plan(1, 1);
        Make.seconds(x, 1);
        due("plan 1 is wanted still", x.same(1), true);
        due("and so A ends too early", x.same(2), false);

        Check.sentence("it is not changed");
        changesNothing("same(3)", y -> y.same(3));
        changesNothing("same(100)", y -> y.same(100));
        changesNothing("same(101)", y -> y.same(101));

        Check.sentence("False also: no plan, no proof");
        due("no plan", new SignalProofs().same(0), false);
        x = Make.crossing(1, "A1-2");
        due("no proof", x.same(0), false);
        x.prove(400);
        due("a proof", x.same(0), true);
        x.prove(0);
        due("it is gone", x.same(0), false);
        x.prove(400);
        x.least(0, 1);
        due("gone by least", x.same(0), false);
    }

    private static void from() {
        SignalProofs x = new SignalProofs();
        Check.sentence("metresOut by speed, rounded up");
        due("nothing", x.from(0, 0, 50), 0);
        due("the least part", x.from(0, 1, 50), 1);
        due("one short", x.from(0, 49, 50), 1);
        due("even", x.from(0, 50, 50), 1);
        due("one more", x.from(0, 51, 50), 2);

        Check.sentence("less metresIn by speed, cut off");
        due("one short", x.from(49, 500, 50), 10);
        due("even", x.from(50, 500, 50), 9);
        due("one more", x.from(51, 500, 50), 9);
        due("both are uneven", x.from(99, 101, 50), 2);

        Check.sentence("0 at least");
        due("equal", x.from(500, 500, 50), 0);
        due("below", x.from(550, 500, 50), 0);
        due("far below", x.from(1000, 0, 1), 0);

        Check.sentence("BAD: metres are not 0 .. 1,000, speed is not 1 .. 50");
        due("all greatest", x.from(1000, 1000, 50), 0);
        due("greatest answer", x.from(0, 1000, 1), 1000);
        for (long metres : new long[] {Long.MIN_VALUE, -1, 1001, 1L << 32, Long.MAX_VALUE}) {
            due("in " + metres, x.from(metres, 0, 1), BAD);
            due("out " + metres, x.from(0, metres, 1), BAD);
            due("both " + metres, x.from(metres, metres, 1), BAD);
        }
        for (int speed : new int[] {MIN, -1, 0, 51, MAX}) {
            due("speed " + speed, x.from(0, 0, speed), BAD);
            due("speed " + speed, x.from(1000, 1000, speed), BAD);
        }
    }
}
