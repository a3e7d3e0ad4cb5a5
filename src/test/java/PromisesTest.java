/** Each promise of the document, by answers that were worked out by hand. */
public final class PromisesTest {
    private static final int BAD = SignalProofs.BAD, NONE = SignalProofs.NONE;
    private static final String INDEX = "ArrayIndexOutOfBoundsException";
    private static final String SIZE = "NegativeArraySizeException";
    private static final String ARGUMENT = "IllegalArgumentException";

    public static void main(String[] args) {
        promise1NewObject();
        promise2Begin();
        promise2BeginForgets();
        promise2BeginRefusedChangesNothing();
        promise3Clash();
        promise3ClashForgets();
        promise3ClashDirections();
        promise4Least();
        promise5Most();
        promise6Unit();
        promise7ReadGood();
        promise7ReadWrong();
        promise7ReadForgets();
        promise8Program();
        promise9Call();
        promise9SixtyAreTold();
        promise10Plan();
        promise11SecondRound();
        promise11SecondCalls();
        promise11SecondPlans();
        promise11SecondOnePhase();
        promise11SecondClearingKeepsShown();
        promise11Faults();
        promise11FirstFaultThatHolds();
        promise12Told();
        promise12ToldState();
        promise12EqualStates();
        promise13Shown();
        promise14Prove();
        promise14ProveKeepsMachine();
        promise15States();
        promise16Row();
        promise17Longest();
        promise18Ring();
        promise19Answered();
        promise20Same();
        promise20SameWithoutFaults();
        promise20SameFromHere();
        promise21From();
        Check.end();
    }

    // --- helpers ---

    private static void due(String what, long got, long want) {
        Check.due(what, got, want);
    }

    private static void due(String what, boolean got, boolean want) {
        Check.due(what, got, want);
    }

    private static void due(String what, String got, String want) {
        Check.due(what, got, want);
    }

    /** Does a second, and looks at the fault, plan, phase, T, clearing, waiting and shown groups. */
    private static void second(SignalProofs x, String what, int... want) {
        due(what + ": fault", x.second(), want[0]);
        int[] which = {1, 2, 3, 4, 6, 7};
        for (int k = 1; k < want.length; k++) {
            due(what + ": told(" + which[k - 1] + ")", x.told(which[k - 1]), want[k]);
        }
    }

    private static void ages(SignalProofs x, String what, int... want) {
        for (int g = 0; g < want.length; g++) {
            due(what + ": age of " + g, x.told(9 + g), want[g]);
        }
    }

    private static void row(SignalProofs x, int k, int... want) {
        for (int what = 0; what < want.length; what++) {
            due("row(" + k + ", " + what + ")", x.row(k, what), want[what]);
        }
    }

    // --- the promises ---

    private static void promise1NewObject() {
        SignalProofs x = new SignalProofs();
        due("1 program", x.program(), 0);
        due("1 states", x.states(), 0);
        due("1 second", x.second(), BAD);
        due("1 told", x.told(0), BAD);
        due("1 shown", x.shown(0), BAD);
        due("1 prove", x.prove(1), BAD);
        due("1 longest", x.longest(0), NONE);
        due("1 answered", x.answered(), false);
        due("1 same", x.same(0), false);
        due("1 call", x.call(0, 1), true);
        due("1 one group alone", x.call(1, 2), false);
        due("1 least of another", Check.thrown(() -> x.least(1, 1)), INDEX);
        due("1 least of the one", x.least(0, 1), true);
        due("1 B is no group", Make.read(x, "B1-1"), -1);
        due("1 A is one", Make.read(x, "A1-1"), 1);
    }

    private static void promise2Begin() {
        SignalProofs x = new SignalProofs();
        due("2 begin(-1)", Check.thrown(() -> x.begin(-1)), SIZE);
        due("2 begin(MIN)", Check.thrown(() -> x.begin(Integer.MIN_VALUE)), SIZE);
        due("2 begin(0)", Check.thrown(() -> x.begin(0)), ARGUMENT);
        due("2 begin(7)", Check.thrown(() -> x.begin(7)), ARGUMENT);
        due("2 begin(MAX)", Check.thrown(() -> x.begin(Integer.MAX_VALUE)), ARGUMENT);
        for (int groups = 1; groups <= 6; groups++) {
            int n = groups;
            due("2 begin(" + n + ")", Check.thrown(() -> x.begin(n)), "nothing");
            due("2 its last group", x.call(n - 1, 1), true);
            due("2 none behind it", x.call(n, 2), false);
        }
    }

    private static void promise2BeginForgets() {
        SignalProofs x = Make.crossing(2, "AB1-2");
        x.clash(0, 1, 3);
        x.least(0, 9);
        x.most(0, 1);
        x.second();
        due("2 told before", x.call(0, 2), true);
        due("2 proved before", x.prove(400), 0);
        x.unit('A');
        x.begin(2);
        due("2 no plans", x.program(), 0);
        due("2 no plan of the machine", x.second(), BAD);
        due("2 no text", x.read(), -1);
        due("2 nothing proved", x.states(), 0);
        due("2 no row", x.row(0, 0), BAD);
        due("2 nothing told", x.call(0, 2), true);
        due("2 second 1 is to come again", x.call(0, 1), true);
        due("2 a plan", Make.read(x, "AB1-2;B1-1"), 2);
        due("2 told of seconds", x.told(0), 0);
        due("2 nothing clashes", x.second(), 0);
        due("2 least time is 1", x.second(), 0);
        SignalProofs y = Make.crossing(2, "A1-1");
        y.clash(0, 1, 5);
        y.most(0, 1);
        y.begin(2);
        Make.read(y, "A3-3;B1-1");
        y.call(1, 1);
        y.second();
        y.second();
        y.second();
        due("2 no seconds between A and B", y.told(7), 2);
        y.clash(0, 1, 0);
        y.call(1, 1);
        y.second();
        due("2 most time is 31", y.second(), 0);
    }

    private static void promise2BeginRefusedChangesNothing() {
        SignalProofs x = Make.crossing(1, "A1-2");
        x.second();
        x.call(0, 5);
        x.prove(400);
        x.unit('A');
        due("2 refused", Check.thrown(() -> x.begin(7)), ARGUMENT);
        due("2 refused", Check.thrown(() -> x.begin(-7)), SIZE);
        due("2 refused: plans", x.program(), 1);
        due("2 refused: seconds", x.told(0), 1);
        due("2 refused: told", x.call(0, 5), false);
        due("2 refused: states", x.states(), 32);
        due("2 refused: text", x.read(), -2);
    }

    private static void promise3Clash() {
        SignalProofs x = new SignalProofs();
        x.begin(3);
        due("3 (3, 0)", Check.thrown(() -> x.clash(3, 0, 1)), INDEX);
        due("3 (0, 3)", Check.thrown(() -> x.clash(0, 3, 1)), INDEX);
        due("3 (-1, 0)", Check.thrown(() -> x.clash(-1, 0, 1)), INDEX);
        due("3 (0, -1)", Check.thrown(() -> x.clash(0, -1, 1)), INDEX);
        due("3 (MIN, MAX)", Check.thrown(() -> x.clash(Integer.MIN_VALUE, Integer.MAX_VALUE, 1)), INDEX);
        due("3 throws before a wrong number", Check.thrown(() -> x.clash(0, 3, 99)), INDEX);
        due("3 throws before equal ones", Check.thrown(() -> x.clash(3, 3, 1)), INDEX);
        due("3 the same", x.clash(1, 1, 1), false);
        due("3 -1", x.clash(0, 1, -1), false);
        due("3 16", x.clash(0, 1, 16), false);
        due("3 0", x.clash(0, 1, 0), true);
        due("3 15", x.clash(2, 1, 15), true);
    }

    private static void promise3ClashForgets() {
        SignalProofs x = Make.crossing(2, "A1-2;B1-2");
        for (int times = 0; times < 2; times++) {
            x.second();
            due("3 a call is told", x.call(1, 3), true);
            due("3 proved", x.prove(400), 1);
            due("3 refused", x.clash(0, 1, 16), false);
            due("3 refused: seconds stay", x.told(0), 1);
            due("3 refused: states stay", x.states() > 0, true);
            due("3 refused: told stays", x.call(0, 3), false);
            due("3 taken, the second time with nothing new", x.clash(0, 1, 2), true);
            due("3 the machine is as at first", x.told(0), 0);
            due("3 T as at first", x.told(3), 0);
            due("3 ages as at first", x.told(9), 0);
            due("3 nothing is proved", x.states(), 0);
            due("3 no longest", x.longest(0), NONE);
        }
    }

    private static void promise3ClashDirections() {
        SignalProofs x = Make.crossing(2, "A1-1;B1-1");
        x.clash(0, 1, 15);
        due("3 A ends", x.second(), 0);
        due("3 A to B is cleared", x.told(4), 15);
        for (int k = 0; k < 15; k++) {
            x.second();
        }
        due("3 B is shown", x.told(7), 2);
        due("3 B ends", x.second(), 0);
        due("3 B to A was not told: 0", x.told(7), 1);
        x.clash(0, 1, 4);
        x.second();
        due("3 told anew", x.told(4), 4);
        SignalProofs y = Make.crossing(2, "AB1-1");
        due("3 no clash yet", y.second(), 0);
        y.clash(1, 0, 0);
        due("3 they clash both ways round", y.second(), 1);
    }

    private static void promise4Least() {
        SignalProofs x = Make.crossing(2, "A1-2;B1-1");
        due("4 group 2", Check.thrown(() -> x.least(2, 1)), INDEX);
        due("4 group -1", Check.thrown(() -> x.least(-1, 99)), INDEX);
        due("4 0", x.least(0, 0), false);
        due("4 16", x.least(0, 16), false);
        due("4 15", x.least(0, 15), true);
        x.second();
        x.call(1, 4);
        x.prove(400);
        due("4 refused", x.least(1, -1), false);
        due("4 refused: seconds stay", x.told(0), 1);
        due("4 refused: states stay", x.states() > 0, true);
        due("4 3", x.least(0, 3), true);
        due("4 seconds are gone", x.told(0), 0);
        due("4 states are gone", x.states(), 0);
        due("4 told is gone", x.call(1, 4), true);
        x.second();
        due("4 A ends at 2", x.second(), 3);
        due("4 2", x.least(0, 2), true);
        x.second();
        due("4 A may end at 2", x.second(), 0);
    }

    private static void promise5Most() {
        SignalProofs x = Make.crossing(2, "A5-9;B1-1");
        due("5 group 2", Check.thrown(() -> x.most(2, 1)), INDEX);
        due("5 group -1", Check.thrown(() -> x.most(-1, 99)), INDEX);
        due("5 0", x.most(0, 0), false);
        due("5 32", x.most(0, 32), false);
        due("5 31", x.most(0, 31), true);
        x.clash(0, 1, 0);
        x.second();
        x.call(1, 4);
        x.prove(400);
        due("5 refused", x.most(1, -1), false);
        due("5 refused: seconds stay", x.told(0), 1);
        due("5 refused: states stay", x.states() > 0, true);
        due("5 3", x.most(0, 3), true);
        due("5 seconds are gone", x.told(0), 0);
        due("5 states are gone", x.states(), 0);
        due("5 told is gone", x.call(1, 1), true);
        due("5 age 1", x.second(), 0);
        due("5 age 2", x.second(), 0);
        due("5 age 3", x.second(), 0);
        due("5 age 4 is above", x.second(), 4);
        due("5 A has ended", x.second(), 0);
        x.most(0, 1);
        x.second();
        due("5 nobody waits", x.second(), 0);
    }

    private static void promise6Unit() {
        SignalProofs x = new SignalProofs();
        due("6 31", x.unit(31), false);
        due("6 127", x.unit(127), false);
        due("6 -1", x.unit(-1), false);
        due("6 256 + 65", x.unit(321), false);
        due("6 nothing was collected", x.read(), -1);
        due("6 32", x.unit(32), true);
        due("6 126", x.unit(126), true);
        for (int k = 2; k < 60; k++) {
            due("6 room for sign " + k, x.unit('A'), true);
        }
        due("6 no room", x.unit('A'), false);
        x.read();
        due("6 room again", x.unit('A'), true);
    }

    private static void promise7ReadGood() {
        SignalProofs x = new SignalProofs();
        x.begin(6);
        due("7 longest text", Make.read(x, "ABCDEF15-31;ABCDEF15-31;ABCDEF15-31;ABCDEF15-31;ABCDEF15-31"), 5);
        due("7 one phase", Make.read(x, "F1-1"), 1);
        due("7 shown are A to F", x.told(7), 63);
        due("7 two phases", Make.read(x, "ACE9-10;B15-15"), 2);
        SignalProofs y = Make.crossing(3, "AC2-3;B1-1");
        due("7 shown are A and C", y.told(7), 5);
        y.second();
        y.second();
        due("7 most time is 3", y.told(2), 0);
        y.second();
        due("7 it ends at 3", y.told(2), 1);
        y.begin(3);
        Make.read(y, "AC2-3;B1-1");
        y.call(1, 1);
        y.second();
        due("7 least time is 2", y.told(2), 0);
        y.second();
        due("7 it may end at 2", y.told(2), 1);
    }

    private static void promise7ReadWrong() {
        SignalProofs x = new SignalProofs();
        x.begin(3);
        String[] texts = {
            "", "A", "AB", "A1", "A1-", "A1-1;", "A1-1;B", "A1-1;B1", "A1-1;B1-",
            "D1-1", "AD1-1", "BA1-1", "AA1-1", "a1-1", "1-1", "-", ";A1-1", " A1-1",
            "A 1-1", "A-1", "A1 -1", "A1;1", "A1-1 ", "A1-1B1-1", "A1-1;;B1-1", "A1--1",
            "A0-1", "A01-1", "A16-16", "A100-1", "A99999999999-1", "A4294967297-1",
            "A1-0", "A1-01", "A1-32", "A5-4", "A15-14", "A1-4294967297", "A2-1x", "A16", "A5-40;",
            "A1-1;A1-1;A1-1;A1-1;A1-1;A1-1", "A1-1;A1-1;A1-1;A1-1;A1-1;", "A1-1;A1-1;A1-1;A1-1;A1-1x",
        };
        int[] wrongSigns = {
            0, 1, 2, 2, 3, 5, 6, 7, 8,
            0, 1, 1, 1, 0, 0, 0, 0, 0,
            1, 1, 2, 2, 4, 4, 5, 3,
            1, 1, 1, 1, 1, 1,
            3, 3, 3, 3, 4, 3, 3, 1, 3,
            24, 24, 24,
        };
        for (int k = 0; k < texts.length; k++) {
            due("7 read '" + texts[k] + "'", Make.read(x, texts[k]), -1 - wrongSigns[k]);
        }
        due("7 no plan came of it", x.program(), 0);
        Make.read(x, "A1-1");
        Make.read(x, "B1-1");
        Make.read(x, "C1-1");
        due("7 a fourth plan", Make.read(x, "A1-1;B1-2"), -10);
        due("7 a fourth plan, wrong before its end", Make.read(x, "A1-1;D"), -6);
        due("7 a fourth plan without a sign", x.read(), -1);
        due("7 three plans", x.program(), 3);
    }

    private static void promise7ReadForgets() {
        SignalProofs x = Make.crossing(2, "A1-2;B1-2");
        x.second();
        x.call(1, 3);
        x.prove(400);
        due("7 a wrong text", Make.read(x, "A1-"), -4);
        due("7 wrong: seconds stay", x.told(0), 1);
        due("7 wrong: states stay", x.states() > 0, true);
        due("7 wrong: told stays", x.call(0, 3), false);
        due("7 a plan", Make.read(x, "A1-1"), 1);
        due("7 seconds are gone", x.told(0), 0);
        due("7 states are gone", x.states(), 0);
        due("7 told is gone", x.call(0, 3), true);
        due("7 collected is gone", x.read(), -1);
        due("7 the machine is in plan 0", x.told(1), 0);
    }

    private static void promise8Program() {
        SignalProofs x = new SignalProofs();
        for (int plans = 0; plans < 3; plans++) {
            due("8 program", x.program(), plans);
            Make.read(x, "A");
            due("8 a wrong text is none", x.program(), plans);
            Make.read(x, "A1-1");
        }
        due("8 three", x.program(), 3);
        Make.read(x, "A1-1");
        due("8 three at most", x.program(), 3);
    }

    private static void promise9Call() {
        SignalProofs x = Make.crossing(2, "A3-9;B1-1");
        due("9 second 0 was", x.call(1, 0), false);
        due("9 second -1", x.call(1, -1), false);
        due("9 second MIN", x.call(1, Integer.MIN_VALUE), false);
        due("9 no group", x.call(2, 1), false);
        due("9 no group", x.call(-1, 1), false);
        due("9 second 2", x.call(1, 2), true);
        due("9 told already", x.call(0, 2), false);
        due("9 a plan for it neither", x.plan(0, 2), false);
        due("9 second MAX", x.call(1, Integer.MAX_VALUE), true);
        second(x, "9 nobody calls yet", 0, 0, 0, 1, 0, 0, 1);
        due("9 second 1 was", x.call(1, 1), false);
        second(x, "9 B waits", 0, 0, 0, 2, 0, 2, 1);
        second(x, "9 B comes", 0, 0, 1, 0, 0, 0, 2);
        SignalProofs y = new SignalProofs();
        y.begin(2);
        due("9 without a plan", y.call(1, 1), true);
        Make.read(y, "A3-9;B1-1");
        due("9 the plan made that gone", y.second() + y.told(6), 0);
    }

    private static void promise9SixtyAreTold() {
        SignalProofs x = Make.crossing(2, "A1-2;B1-1");
        for (int k = 1; k <= 60; k++) {
            due("9 telling " + k, k % 2 == 0 ? x.call(0, 2 * k) : x.plan(0, 2 * k), true);
        }
        due("9 60 are told", x.call(0, 1), false);
        due("9 60 are told", x.plan(0, 1), false);
        x.second();
        due("9 nothing of it was for second 1", x.call(0, 3), false);
        x.second();
        due("9 second 2 is done, but it was told: still 60", x.call(0, 3), false);
        due("9 what is told is still told", x.call(0, 120), false);
    }

    private static void promise10Plan() {
        SignalProofs x = Make.crossing(2, "A1-9", "B2-9");
        due("10 no plan 2", x.plan(2, 1), false);
        due("10 no plan -1", x.plan(-1, 1), false);
        due("10 second 0", x.plan(1, 0), false);
        due("10 second 2", x.plan(1, 2), true);
        due("10 told already", x.plan(0, 2), false);
        due("10 a call for it neither", x.call(0, 2), false);
        due("10 second 3", x.plan(0, 3), true);
        second(x, "10 plan 0", 0, 0, 0, 1, 0, 0, 1);
        due("10 wanted", x.told(5), 0);
        due("10 second 1 was", x.plan(1, 1), false);
        second(x, "10 plan 1", 0, 1, 0, 0, 0, 0, 2);
        due("10 wanted", x.told(5), 1);
        second(x, "10 plan 0 is wanted", 0, 1, 0, 1, 0, 0, 2);
        due("10 wanted", x.told(5), 0);
        second(x, "10 and comes", 0, 0, 0, 0, 0, 0, 1);
        SignalProofs y = new SignalProofs();
        due("10 without plans", y.plan(0, 1), false);
    }

    private static void promise11SecondRound() {
        SignalProofs x = Make.crossing(2, "A2-4;B1-3");
        x.clash(0, 1, 2);
        ages(x, "11 first", 0, 15);
        second(x, "11 s1", 0, 0, 0, 1, 0, 0, 1);
        ages(x, "11 s1", 1, 15);
        second(x, "11 s2", 0, 0, 0, 2, 0, 0, 1);
        second(x, "11 s3", 0, 0, 0, 3, 0, 0, 1);
        second(x, "11 s4: ends", 0, 0, 0, 4, 2, 0, 0);
        ages(x, "11 s4", 0, 15);
        second(x, "11 s5: clears", 0, 0, 0, 4, 1, 0, 0);
        ages(x, "11 s5", 1, 15);
        second(x, "11 s6: B begins", 0, 0, 1, 0, 0, 0, 2);
        ages(x, "11 s6", 2, 0);
        second(x, "11 s7", 0, 0, 1, 1, 0, 0, 2);
        ages(x, "11 s7", 3, 1);
        second(x, "11 s8", 0, 0, 1, 2, 0, 0, 2);
        second(x, "11 s9: A at once", 0, 0, 0, 0, 0, 0, 1);
        ages(x, "11 s9", 0, 0);
        due("11 seconds", x.told(0), 9);
    }

    private static void promise11SecondCalls() {
        SignalProofs x = Make.crossing(4, "A1-5;B1-5;C1-5");
        x.call(0, 1);
        x.call(2, 2);
        second(x, "11 A is shown, so it does not wait", 0, 0, 0, 1, 0, 0, 1);
        second(x, "11 C waits, B is passed over", 0, 0, 2, 0, 0, 0, 4);
        x.call(1, 3);
        second(x, "11 B waits, round and round", 0, 0, 1, 0, 0, 0, 2);
        x.call(3, 4);
        second(x, "11 D is nowhere: the next one", 0, 0, 2, 0, 0, 8, 4);
        second(x, "11 and on", 0, 0, 0, 0, 0, 8, 1);
        SignalProofs y = Make.crossing(2, "A3-9;B1-1");
        y.clash(0, 1, 3);
        y.call(1, 1);
        y.call(0, 4);
        second(y, "11 too early", 0, 0, 0, 1, 0, 2, 1);
        second(y, "11 too early", 0, 0, 0, 2, 0, 2, 1);
        second(y, "11 ends at its least time", 0, 0, 0, 3, 3, 2, 0);
        second(y, "11 A calls while it clears", 0, 0, 0, 3, 2, 3, 0);
        second(y, "11 clears", 0, 0, 0, 3, 1, 3, 0);
        second(y, "11 B begins, A waits", 0, 0, 1, 0, 0, 1, 2);
    }

    private static void promise11SecondPlans() {
        SignalProofs x = Make.crossing(3, "A2-9;B1-9", "C3-9;A1-9");
        x.clash(0, 2, 2);
        x.plan(1, 1);
        x.plan(0, 3);
        x.call(1, 4);
        second(x, "11 least time first", 0, 0, 0, 1, 0, 0, 1);
        second(x, "11 plan 1 comes", 0, 0, 0, 2, 2, 0, 0);
        second(x, "11 plan 0 is wanted meanwhile", 0, 0, 0, 2, 1, 0, 0);
        due("11 wanted", x.told(5), 0);
        second(x, "11 plan 1 begins all the same", 0, 1, 0, 0, 0, 2, 4);
        second(x, "11 C 1", 0, 1, 0, 1, 0, 2, 4);
        second(x, "11 C 2", 0, 1, 0, 2, 0, 2, 4);
        second(x, "11 phase 0 of plan 0, not B who waits", 0, 0, 0, 0, 0, 2, 1);
        SignalProofs y = Make.crossing(1, "A1-9", "A1-9");
        y.second();
        y.second();
        y.plan(1, 3);
        second(y, "11 the same groups, another plan", 0, 1, 0, 0, 0, 0, 1);
        ages(y, "11 A is shown on", 3);
    }

    private static void promise11SecondOnePhase() {
        SignalProofs x = Make.crossing(2, "A1-2");
        x.call(1, 3);
        for (int k = 1; k <= 40; k++) {
            second(x, "11 one phase " + k, 0, 0, 0, Math.min(k, 31), 0, k < 3 ? 0 : 2, 1);
        }
        ages(x, "11 at most", 31, 15);
        SignalProofs y = Make.crossing(2, "A1-1;B15-31");
        for (int k = 1; k <= 20; k++) {
            y.second();
        }
        ages(y, "11 of one that is not shown at most 15", 15, 19);
    }

    private static void promise11SecondClearingKeepsShown() {
        SignalProofs x = Make.crossing(4, "AB1-1;BC1-1;BD1-9");
        x.clash(0, 2, 1);
        x.clash(0, 1, 0);
        x.clash(0, 1, 9);
        due("11 A and B clash and are shown", x.second(), 0);
        due("11 B is shown while it clears", x.told(7), 2);
        due("11 only by seconds to those that come", x.told(4), 1);
        ages(x, "11 B goes on", 0, 1, 15, 15);
        x.call(1, 2);
        x.second();
        due("11 B was shown, so it does not wait", x.told(6), 0);
        due("11 B and C", x.told(7), 6);
        ages(x, "11 C is new", 1, 2, 0, 15);
        SignalProofs y = Make.crossing(5, "AB1-1;CD1-1");
        y.clash(0, 2, 3);
        y.clash(1, 3, 7);
        y.clash(1, 2, 5);
        y.clash(2, 0, 9);
        y.clash(1, 4, 11);
        y.second();
        due("11 the greatest of the seconds", y.told(4), 7);
        SignalProofs z = Make.crossing(3, "AB1-1;BC1-1");
        z.clash(1, 2, 4);
        due("11 B does not end, so nothing is cleared", z.second(), 1);
        due("11 B and C", z.told(7), 6);
    }

    private static void promise11Faults() {
        SignalProofs one = Make.crossing(2, "AB1-3");
        one.clash(0, 1, 0);
        due("11 fault 1", one.second(), 1);
        due("11 the second is done all the same", one.told(3), 1);
        SignalProofs two = Make.crossing(3, "A1-1;C1-1;B1-1");
        two.clash(0, 1, 1);
        due("11 A ends", two.second(), 0);
        due("11 B begins, A's age is 1", two.second(), 0);
        two.clash(0, 1, 2);
        due("11 A ends", two.second(), 0);
        due("11 fault 2: A's age is below 2", two.second(), 2);
        due("11 A comes, B's seconds are 0", two.second(), 0);
        two.clash(0, 1, 1);
        two.clash(1, 0, 15);
        two.second();
        due("11 what counts is from A's end to B", two.second(), 0);
        SignalProofs three = Make.crossing(2, "AB1-1;B1-1;A1-1");
        three.least(0, 2);
        three.least(1, 2);
        due("11 fault 3 by A", three.second(), 3);
        due("11 B was shown for 2", three.second(), 0);
        due("11 A begins a new count at 0 and goes on into AB", three.second(), 0);
        due("11 A was shown for 2 then", three.second(), 0);
        SignalProofs four = Make.crossing(3, "A5-9;B1-1");
        four.most(0, 1);
        four.clash(1, 0, 0);
        four.call(2, 1);
        four.call(1, 3);
        due("11 age 1", four.second(), 0);
        due("11 C waits, which does not clash with A", four.second(), 0);
        due("11 fault 4: B waits", four.second(), 4);
        due("11 fault 4 again", four.second(), 4);
        due("11 A ended", four.second(), 0);
    }

    private static void promise11FirstFaultThatHolds() {
        SignalProofs x = Make.crossing(3, "A1-1;BC1-1");
        x.least(0, 5);
        x.clash(1, 2, 0);
        due("11 1 before 3", x.second(), 1);
        SignalProofs y = Make.crossing(3, "A1-1;C1-1;B1-1");
        y.clash(0, 1, 9);
        y.least(2, 5);
        due("11 none yet", y.second(), 0);
        due("11 2 before 3", y.second(), 2);
        SignalProofs z = Make.crossing(4, "AC2-2;BC1-1");
        z.least(0, 5);
        z.most(2, 1);
        z.clash(2, 3, 0);
        z.call(3, 1);
        due("11 none yet", z.second(), 0);
        due("11 3 before 4", z.second(), 3);
        due("11 4 alone", z.second(), 4);
        SignalProofs v = Make.crossing(4, "A1-1;C1-1;BD1-1");
        v.clash(0, 1, 9);
        v.clash(1, 3, 0);
        v.second();
        due("11 1 before 2", v.second(), 1);
    }

    private static void promise12Told() {
        SignalProofs x = Make.crossing(2, "A3-9;B2-9", "B2-9;A1-3");
        x.clash(0, 1, 4);
        x.plan(1, 1);
        x.call(1, 2);
        x.second();
        x.second();
        tell(x, 2, 0, 0, 2, 0, 1, 2, 1, BAD, 2, 15, BAD);
        x.second();
        tell(x, 3, 0, 0, 3, 4, 1, 2, 0, BAD, 0, 15, BAD);
        for (int k = 0; k < 4; k++) {
            x.second();
        }
        tell(x, 7, 1, 0, 0, 0, 1, 0, 2, BAD, 4, 0, BAD);
        due("12 -1", x.told(-1), BAD);
        due("12 MIN", x.told(Integer.MIN_VALUE), BAD);
        due("12 MAX", x.told(Integer.MAX_VALUE), BAD);
        SignalProofs six = Make.crossing(6, "A1-1");
        due("12 the sixth age", six.told(14), 15);
        due("12 no seventh", six.told(15), BAD);
        x.begin(2);
        for (int which = 0; which < 12; which++) {
            due("12 no plan", x.told(which), BAD);
        }
    }

    private static void tell(SignalProofs x, int... want) {
        for (int which = 0; which < want.length; which++) {
            due("12 told(" + which + ") after " + want[0], x.told(which), want[which]);
        }
    }

    private static void promise12ToldState() {
        SignalProofs x = Make.crossing(2, "A2-3;B1-1");
        due("12 nothing is found", x.told(8), BAD);
        x.prove(400);
        due("12 the first", x.told(8), 0);
        x.call(1, 1);
        x.second();
        due("12 B waits: the second one behind the first", x.told(8), 2);
        due("12 three states", x.prove(3), 2);
        due("12 is the last of three", x.told(8), 2);
        x.prove(2);
        due("12 is not among two", x.told(8), BAD);
        x.prove(0);
        due("12 gone", x.told(8), BAD);
    }

    private static void promise12EqualStates() {
        SignalProofs x = Make.crossing(2, "A15-20;B1-1");
        x.clash(0, 1, 1);
        due("12 proved", x.prove(400), 1);
        for (int k = 0; k < 17; k++) {
            x.second();
        }
        int number = x.told(8);
        for (int k = 17; k < 39; k++) {
            x.second();
        }
        due("12 T is 17 again", x.told(3), 17);
        due("12 the same state, in whatever way it is come to", x.told(8), number);
        SignalProofs early = Make.crossing(2, "A1-2;B1-1");
        SignalProofs late = Make.crossing(2, "A1-2;B1-1");
        early.clash(0, 1, 1);
        late.clash(0, 1, 1);
        early.prove(400);
        late.prove(400);
        early.call(1, 1);
        early.second();
        late.call(1, 2);
        late.second();
        late.second();
        due("12 clears", early.told(4), 1);
        due("12 clears", late.told(4), 1);
        due("12 the third that is found", early.told(8), 2);
        due("12 another, by T alone", late.told(8) > 2, true);
    }

    private static void promise13Shown() {
        SignalProofs x = new SignalProofs();
        x.begin(3);
        due("13 no plan", x.shown(0), BAD);
        Make.read(x, "AC1-1;B1-1");
        due("13 A", x.shown(0), 1);
        due("13 B", x.shown(1), 0);
        due("13 C", x.shown(2), 1);
        due("13 D", x.shown(3), BAD);
        due("13 -1", x.shown(-1), BAD);
        due("13 32", x.shown(32), BAD);
        x.clash(0, 1, 1);
        x.second();
        due("13 A is not while it clears", x.shown(0), 0);
        due("13 B is not yet", x.shown(1), 0);
        x.second();
        due("13 B is", x.shown(1), 1);
    }

    private static void promise14Prove() {
        SignalProofs x = Make.crossing(1, "A1-2");
        due("14 32 states are enough", x.prove(32), 1);
        due("14 31 are not", x.prove(31), 2);
        due("14 1", x.prove(1), 2);
        due("14 400", x.prove(400), 1);
        int[] others = {0, 401, -1, Integer.MIN_VALUE, Integer.MAX_VALUE};
        for (int states : others) {
            x.prove(400);
            due("14 prove(" + states + ")", x.prove(states), BAD);
            due("14 what was proved is gone", x.states(), 0);
            due("14 so is longest", x.longest(0), NONE);
            due("14 and answered", x.answered(), false);
        }
        SignalProofs y = Make.crossing(2, "AB1-3");
        y.clash(0, 1, 0);
        due("14 a fault in the first second", y.prove(1), 0);
        due("14 one state", y.states(), 1);
        SignalProofs z = Make.crossing(2, "A2-3;B1-1");
        z.clash(0, 1, 1);
        z.least(0, 3);
        due("14 a fault by a call at 2", z.prove(400), 0);
        due("14 more are met before it", z.prove(3), 2);
        due("14 four are enough for it", z.prove(4), 0);
        z.begin(2);
        due("14 no plan", z.prove(400), BAD);
    }

    private static void promise14ProveKeepsMachine() {
        SignalProofs x = Make.crossing(2, "A1-2;B1-2");
        x.call(1, 3);
        x.second();
        due("14 proved", x.prove(400), 1);
        due("14 seconds stay", x.told(0), 1);
        due("14 T stays", x.told(3), 1);
        due("14 told stays", x.call(0, 3), false);
        int all = x.states();
        x.second();
        x.prove(400);
        due("14 the proof is from the first state on", x.states(), all);
    }

    private static void promise15States() {
        SignalProofs x = Make.crossing(2, "A1-2");
        due("15 without a proof", x.states(), 0);
        x.prove(400);
        due("15 T of 0, and of 1 to 31 with B waiting or not", x.states(), 63);
        x.prove(10);
        due("15 of more", x.states(), 10);
        x.prove(1);
        due("15 of more", x.states(), 1);
        x.most(0, 31);
        due("15 gone", x.states(), 0);
        SignalProofs y = Make.crossing(1, "A1-2", "A1-2");
        y.prove(400);
        due("15 equal states are one; ages part the plans", y.states() > 64, true);
    }

    private static void promise16Row() {
        SignalProofs x = Make.crossing(2, "A2-3;B1-1");
        due("16 without a proof", x.row(0, 0), BAD);
        x.clash(0, 1, 1);
        x.least(0, 3);
        due("16 faulty", x.prove(400), 0);
        row(x, 0, 0, 0, 0, 1, 0, 0, 0, BAD);
        row(x, 1, 2, 0, 0, 0, 1, 2, 3, BAD);
        row(x, 2, BAD, BAD, BAD, BAD, BAD, BAD, BAD, BAD);
        due("16 -1", x.row(-1, 0), BAD);
        due("16 what -1", x.row(0, -1), BAD);
        due("16 MIN", x.row(Integer.MIN_VALUE, 0), BAD);
        due("16 MAX", x.row(Integer.MAX_VALUE, Integer.MAX_VALUE), BAD);
        due("16 states", x.states(), 4);
        x.prove(2);
        due("16 the last proof was 2", x.row(0, 0), BAD);
        x.prove(400);
        due("16 again", x.row(1, 6), 3);
        x.least(0, 1);
        due("16 gone", x.row(1, 6), BAD);
        x.prove(400);
        due("16 the last proof was 1", x.row(0, 0), BAD);
        SignalProofs y = Make.crossing(2, "A1-9", "B1-9;AB1-9");
        y.clash(0, 1, 0);
        due("16 faulty", y.prove(400), 0);
        row(y, 0, 4, 1, 0, 2, 0, 0, 0);
        row(y, 1, 1, 1, 1, 3, 0, 0, 1);
        SignalProofs z = Make.crossing(3, "A1-9;B2-9;C1-9");
        z.clash(0, 2, 9);
        due("16 faulty", z.prove(400), 0);
        row(z, 0, 2, 0, 1, 2, 0, 0, 0);
        row(z, 1, 0, 0, 1, 2, 0, 0, 0);
        row(z, 2, 3, 0, 2, 4, 0, 0, 2);
        row(z, 3, BAD);
    }

    private static void promise17Longest() {
        SignalProofs x = Make.crossing(2, "A1-1;B2-2");
        due("17 without a proof", x.longest(0), NONE);
        due("17 proved", x.prove(400), 1);
        due("17 A waits at T 1 of B alone", x.longest(0), 1);
        due("17 B begins when it calls", x.longest(1), 0);
        due("17 no group", x.longest(2), NONE);
        due("17 no group", x.longest(-1), NONE);
        x.prove(2);
        due("17 the last proof was 2", x.longest(0), NONE);
        SignalProofs y = Make.crossing(2, "A2-9;B1-5");
        y.clash(0, 1, 3);
        y.clash(1, 0, 2);
        y.prove(400);
        due("17 A: 2 of clearing, B's 1 and 2 of clearing", y.longest(0), 5);
        due("17 B: 1 of clearing, A's 2 and 3 of clearing", y.longest(1), 6);
        SignalProofs z = Make.crossing(2, "A1-2");
        z.prove(400);
        due("17 B has no phase", z.longest(1), -1);
        due("17 A is always shown", z.longest(0), 0);
        z.clash(0, 1, 0);
        z.most(0, 1);
        due("17 faulty", z.prove(400), 0);
        due("17 the last proof was 0", z.longest(1), NONE);
    }

    private static void promise18Ring() {
        SignalProofs x = Make.crossing(3, "A1-2");
        due("18 without a proof", x.ring(0), BAD);
        due("18 proved", x.prove(400), 1);
        due("18 first", x.ring(0), 1);
        due("18 second", x.ring(1), 2);
        due("18 third", x.ring(2), BAD);
        due("18 -1", x.ring(-1), BAD);
        due("18 MAX", x.ring(Integer.MAX_VALUE), BAD);
        x.prove(3);
        due("18 the last proof was 2", x.ring(0), BAD);
        SignalProofs y = Make.crossing(2, "A1-1;B1-1", "A1-1;A1-1");
        due("18 proved", y.prove(400), 1);
        due("18 A", y.longest(0), 0);
        due("18 B, if plan 1 is kept", y.longest(1), -1);
        due("18 B", y.ring(0), 1);
        due("18 B alone", y.ring(1), BAD);
        SignalProofs z = Make.crossing(2, "A1-1;B2-2");
        z.prove(400);
        due("18 nobody", z.ring(0), BAD);
    }

    private static void promise19Answered() {
        SignalProofs x = Make.crossing(2, "A1-1;B2-2");
        due("19 without a proof", x.answered(), false);
        x.prove(400);
        due("19 all are answered", x.answered(), true);
        x.prove(2);
        due("19 the last proof was 2", x.answered(), false);
        x.least(1, 3);
        due("19 faulty", x.prove(400), 0);
        due("19 the last proof was 0", x.answered(), false);
        SignalProofs y = Make.crossing(2, "A1-2");
        y.prove(400);
        due("19 B waits without end", y.answered(), false);
    }

    private static void promise20Same() {
        SignalProofs x = Make.crossing(2, "A2-3;B1-1");
        x.clash(0, 1, 1);
        due("20 no proof", x.same(0), false);
        due("20 proved", x.prove(400), 1);
        due("20 0", x.same(0), true);
        due("20 100", x.same(100), true);
        due("20 101", x.same(101), false);
        due("20 -1", x.same(-1), false);
        x.least(0, 3);
        due("20 the proof is gone", x.same(0), false);
        due("20 faulty", x.prove(400), 0);
        due("20 T 1 and T 2 were found", x.same(2), true);
        due("20 what comes then was not", x.same(3), false);
        x.call(1, 2);
        due("20 T 1 was found", x.same(1), true);
        due("20 then a fault", x.same(2), false);
        due("20 the machine is not changed", x.told(0), 0);
        due("20 nor its phase", x.told(3), 0);
        second(x, "20 s1", 0, 0, 0, 1, 0, 0, 1);
        due("20 second 2 has its fault still", x.same(1), false);
        second(x, "20 s2", 3, 0, 0, 2, 1, 2, 0);
        x.begin(2);
        due("20 no plan", x.same(0), false);
    }

    private static void promise20SameWithoutFaults() {
        SignalProofs x = Make.crossing(2, "B1-1;A2-2", "B3-3;A1-1");
        x.least(0, 2);
        due("20 faulty", x.prove(400), 0);
        x.plan(1, 1);
        x.plan(0, 5);
        due("20 up to A", x.same(4), true);
        due("20 A is too short, though what is behind it was found", x.same(5), false);
        for (int k = 0; k < 4; k++) {
            due("20 no fault", x.second(), 0);
        }
        due("20 A is too short", x.second(), 3);
        due("20 a state that was found", x.told(8) >= 0, true);
    }

    private static void promise20SameFromHere() {
        SignalProofs x = Make.crossing(1, "A1-2");
        x.prove(2);
        due("20 T 0", x.same(0), true);
        due("20 T 1", x.same(1), true);
        due("20 T 2 was not found", x.same(2), false);
        x.second();
        due("20 at T 1", x.same(0), true);
        due("20 at T 1", x.same(1), false);
        x.second();
        due("20 at T 2", x.same(0), false);
    }

    private static void promise21From() {
        SignalProofs x = new SignalProofs();
        due("21", x.from(10, 50, 7), 7);
        due("21", x.from(50, 10, 7), 0);
        due("21 nothing", x.from(0, 0, 1), 0);
        due("21 up", x.from(0, 1, 50), 1);
        due("21 even", x.from(0, 100, 50), 2);
        due("21 up", x.from(0, 101, 50), 3);
        due("21 cut off", x.from(49, 100, 50), 2);
        due("21 cut off", x.from(50, 100, 50), 1);
        due("21 greatest", x.from(0, 1000, 1), 1000);
        due("21 equal", x.from(1000, 1000, 7), 1);
        due("21 least", x.from(1000, 0, 1), 0);
        due("21 in 1001", x.from(1001, 0, 1), BAD);
        due("21 out 1001", x.from(0, 1001, 1), BAD);
        due("21 in -1", x.from(-1, 0, 1), BAD);
        due("21 out -1", x.from(0, -1, 1), BAD);
        due("21 speed 0", x.from(0, 0, 0), BAD);
        due("21 speed 51", x.from(0, 0, 51), BAD);
        due("21 speed -1", x.from(0, 0, -1), BAD);
        due("21 in 2^32", x.from(1L << 32, 0, 1), BAD);
        due("21 out 2^32", x.from(0, 1L << 32, 1), BAD);
        due("21 MIN", x.from(Long.MIN_VALUE, Long.MAX_VALUE, Integer.MIN_VALUE), BAD);
    }
}
