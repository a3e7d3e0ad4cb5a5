import java.util.Arrays;

/** Signals of a crossing as a machine by seconds, and a proof over all states that it can come to. */
public final class SignalProofs {
    public static final int BAD = -1, NONE = -2;

    private static final int MOST_GROUPS = 6;
    private static final int MOST_PLANS = 3;
    private static final int MOST_PHASES = 5;
    private static final int MOST_PLACES = MOST_PLANS * MOST_PHASES;
    private static final int MOST_EVENTS = 1 + MOST_GROUPS + MOST_PLANS;
    private static final int MOST_STATES = 400;
    private static final int MOST_SIGNS = 60;
    private static final int MOST_NOTES = 60;
    private static final int MOST_SECONDS_AHEAD = 100;
    private static final int MOST_METRES = 1000;
    private static final int MOST_SPEED = 50;

    /** The greatest seconds between two groups, least time, and age of a group that is not shown. */
    private static final int SHORT_LIMIT = 15;
    /** The greatest most time, T, and age of a group that is shown. */
    private static final int LONG_LIMIT = 31;

    private static final int FAULTY = 0, PROVED = 1, MORE = 2, UNPROVED = 3;

    private final Crossing crossing;
    private final PlanText text;
    private final Diary diary;
    private final Machine machine;
    private final Machine trial;
    private final Proof proof;
    private int done;

    public SignalProofs() {
        crossing = new Crossing();
        text = new PlanText();
        diary = new Diary();
        machine = new Machine(crossing);
        trial = new Machine(crossing);
        proof = new Proof(crossing);
        startAnew(1);
    }

    public void begin(int groups) throws NegativeArraySizeException, IllegalArgumentException {
        if (groups < 0) {
            throw new NegativeArraySizeException("groups are below 0");
        }
        if (groups == 0 || groups > MOST_GROUPS) {
            throw new IllegalArgumentException("groups are not 1 .. 6");
        }
        startAnew(groups);
    }

    public boolean clash(int a, int b, int seconds) throws ArrayIndexOutOfBoundsException {
        if (!crossing.isGroup(a)) {
            throw new ArrayIndexOutOfBoundsException("the first group is none");
        }
        if (!crossing.isGroup(b)) {
            throw new ArrayIndexOutOfBoundsException("the second group is none");
        }
        if (a == b || seconds < 0 || seconds > SHORT_LIMIT) {
            return false;
        }
        crossing.bar(a, b, seconds);
        forgetRun();
        return true;
    }

    public boolean least(int group, int seconds) throws ArrayIndexOutOfBoundsException {
        if (!crossing.isGroup(group)) {
            throw new ArrayIndexOutOfBoundsException("no such group");
        }
        if (seconds < 1 || seconds > SHORT_LIMIT) {
            return false;
        }
        crossing.leastTimes[group] = seconds;
        forgetRun();
        return true;
    }

    public boolean most(int group, int seconds) throws ArrayIndexOutOfBoundsException {
        if (!crossing.isGroup(group)) {
            throw new ArrayIndexOutOfBoundsException("no such group");
        }
        if (seconds < 1 || seconds > LONG_LIMIT) {
            return false;
        }
        crossing.mostTimes[group] = seconds;
        forgetRun();
        return true;
    }

    public boolean unit(int u) {
        return text.collect(u);
    }

    public int read() {
        int phases = text.parse(crossing.groups);
        if (phases > 0) {
            if (crossing.addPlan(text, phases)) {
                forgetRun();
            } else {
                phases = -1 - text.length;
            }
        }
        text.length = 0;
        return phases;
    }

    public int program() {
        return crossing.plans;
    }

    public boolean call(int group, int second) {
        return crossing.isGroup(group) && note(1 + group, second);
    }

    public boolean plan(int p, int second) {
        return crossing.isPlan(p) && note(1 + crossing.groups + p, second);
    }

    public int second() {
        if (crossing.plans == 0) {
            return BAD;
        }
        done++;
        return machine.step(diary.eventOf(done));
    }

    public int told(int which) {
        if (crossing.plans == 0) {
            return BAD;
        }
        if (which == 0) {
            return done;
        }
        if (which == 8) {
            return proof.numberOf(machine.packed());
        }
        return machine.look(which);
    }

    public int shown(int group) {
        if (crossing.plans == 0 || !crossing.isGroup(group)) {
            return BAD;
        }
        return machine.lit() >> group & 1;
    }

    public int prove(int states) {
        if (crossing.plans == 0 || states < 1 || states > MOST_STATES) {
            proof.forget();
            return BAD;
        }
        return proof.search(states);
    }

    public int states() {
        return proof.found;
    }

    public int row(int k, int what) {
        return proof.rowEntry(k, what);
    }

    public int longest(int group) {
        if (proof.verdict != PROVED || !crossing.isGroup(group)) {
            return NONE;
        }
        return proof.longestWaits[group];
    }

    public int ring(int k) {
        if (proof.verdict != PROVED || k < 0) {
            return BAD;
        }
        int left = k;
        for (int g = 0; g < crossing.groups; g++) {
            if (proof.longestWaits[g] == Proof.ENDLESS) {
                if (left == 0) {
                    return g;
                }
                left--;
            }
        }
        return BAD;
    }

    public boolean answered() {
        return proof.verdict == PROVED && ring(0) == BAD;
    }

    public boolean same(int seconds) {
        if (crossing.plans == 0 || proof.found == 0 || seconds < 0 || seconds > MOST_SECONDS_AHEAD) {
            return false;
        }
        trial.unpack(machine.packed());
        if (proof.numberOf(trial.packed()) == BAD) {
            return false;
        }
        for (int k = 1; k <= seconds; k++) {
            if (trial.step(diary.eventOf(done + k)) != 0 || proof.numberOf(trial.packed()) == BAD) {
                return false;
            }
        }
        return true;
    }

    public int from(long metresIn, long metresOut, int speed) {
        if (metresIn < 0 || metresIn > MOST_METRES || metresOut < 0 || metresOut > MOST_METRES
                || speed < 1 || speed > MOST_SPEED) {
            return BAD;
        }
        int out = ((int) metresOut + speed - 1) / speed;
        int in = (int) metresIn / speed;
        return out > in ? out - in : 0;
    }

    private void startAnew(int groups) {
        crossing.clear(groups);
        text.length = 0;
        forgetRun();
    }

    /** Another crossing makes what was proved, and told of seconds to come, worthless. */
    private void forgetRun() {
        diary.count = 0;
        proof.forget();
        machine.reset();
        done = 0;
    }

    private boolean note(int event, int second) {
        return second > done && diary.add(second, event);
    }

    /**
     * What was told of the crossing. A phase of a plan has one number, its place:
     * the plan's number times MOST_PHASES, and the phase's number.
     */
    private static final class Crossing {
        int groups;
        int plans;
        final int[] clashing = new int[MOST_GROUPS];
        final int[] between = new int[MOST_GROUPS * MOST_GROUPS];
        final int[] leastTimes = new int[MOST_GROUPS];
        final int[] mostTimes = new int[MOST_GROUPS];
        final int[] phases = new int[MOST_PLANS];
        final int[] members = new int[MOST_PLACES];
        final int[] shortest = new int[MOST_PLACES];
        final int[] longestTimes = new int[MOST_PLACES];

        void clear(int newGroups) {
            groups = newGroups;
            plans = 0;
            Arrays.fill(clashing, 0);
            Arrays.fill(between, 0);
            Arrays.fill(leastTimes, 1);
            Arrays.fill(mostTimes, LONG_LIMIT);
            Arrays.fill(phases, 0);
            Arrays.fill(members, 0);
        }

        boolean isGroup(int g) {
            return g >= 0 && g < groups;
        }

        boolean isPlan(int p) {
            return p >= 0 && p < plans;
        }

        int eventCount() {
            return 1 + groups + plans;
        }

        void bar(int a, int b, int seconds) {
            if (isGroup(a) && isGroup(b)) {
                clashing[a] |= 1 << b;
                clashing[b] |= 1 << a;
                between[a * MOST_GROUPS + b] = seconds;
            }
        }

        boolean addPlan(PlanText text, int count) {
            if (plans >= MOST_PLANS) {
                return false;
            }
            for (int k = 0; k < count && k < MOST_PHASES; k++) {
                int place = plans * MOST_PHASES + k;
                members[place] = text.members[k];
                shortest[place] = text.shortest[k];
                longestTimes[place] = text.longestTimes[k];
            }
            phases[plans] = count;
            plans++;
            return true;
        }

        int groupsIn(int place) {
            return place >= 0 && place < MOST_PLACES ? members[place] : 0;
        }

        /** Whether a phase that was shown so long has to end: sooner, if something else is asked for. */
        boolean isOver(int place, int time, boolean asked) {
            if (place < 0 || place >= MOST_PLACES) {
                return false;
            }
            return time >= longestTimes[place] || asked && time >= shortest[place];
        }

        /** The first place behind this one in its plan for a group that waits, or else the next one. */
        int placeBehind(int place, int waits) {
            int plan = place / MOST_PHASES;
            if (!isPlan(plan)) {
                return place;
            }
            int start = plan * MOST_PHASES;
            int end = start + phases[plan];
            int at = place;
            for (int k = start; k < end; k++) {
                at = at + 1 < end ? at + 1 : start;
                if ((groupsIn(at) & waits) != 0) {
                    return at;
                }
            }
            return place + 1 < end ? place + 1 : start;
        }

        /** The greatest of the seconds from the end of a group that goes to the beginning of one that comes. */
        int clearing(int going, int coming) {
            int greatest = 0;
            for (int a = 0; a < groups; a++) {
                for (int b = 0; b < groups; b++) {
                    boolean counts = (going >> a & 1) != 0 && (coming >> b & 1) != 0;
                    if (counts && between[a * MOST_GROUPS + b] > greatest) {
                        greatest = between[a * MOST_GROUPS + b];
                    }
                }
            }
            return greatest;
        }
    }

    /** The signs that were collected, and what the last parse made of them. */
    private static final class PlanText {
        int length;
        final int[] signs = new int[MOST_SIGNS];
        final int[] members = new int[MOST_PHASES];
        final int[] shortest = new int[MOST_PHASES];
        final int[] longestTimes = new int[MOST_PHASES];
        private int value;

        boolean collect(int sign) {
            if (sign < 32 || sign > 126 || length >= MOST_SIGNS) {
                return false;
            }
            signs[length] = sign;
            length++;
            return true;
        }

        /** How many phases the signs are, or - 1 less the number of the first wrong one. */
        int parse(int groups) {
            int at = 0;
            for (int k = 0; k < MOST_PHASES; k++) {
                at = parsePhase(k, at, groups);
                if (at < 0) {
                    return at;
                }
                if (at >= length) {
                    return k + 1;
                }
                if (signs[at] != ';' || k == MOST_PHASES - 1) {
                    return -1 - at;
                }
                at++;
            }
            return -1 - at;
        }

        /** The number of the sign behind the phase, or - 1 less that of the first wrong one. */
        private int parsePhase(int k, int start, int groups) {
            int at = parseLetters(k, start, groups);
            if (at < 0) {
                return at;
            }
            at = parseNumber(at, 1, SHORT_LIMIT);
            if (at < 0) {
                return at;
            }
            shortest[k] = value;
            if (signAt(at) != '-') {
                return -1 - at;
            }
            at = parseNumber(at + 1, value, LONG_LIMIT);
            longestTimes[k] = value;
            return at;
        }

        private int parseLetters(int k, int start, int groups) {
            int letters = 0;
            int lowest = 0;
            int at = start;
            while (at < length) {
                int g = signs[at] - 'A';
                if (g < lowest || g >= groups) {
                    break;
                }
                letters |= 1 << g;
                lowest = g + 1;
                at++;
            }
            members[k] = letters;
            return letters != 0 && isDigit(signAt(at)) ? at : -1 - at;
        }

        /** Reads into value; a number out of bounds, or with a 0 in front, is wrong at its first digit. */
        private int parseNumber(int start, int low, int high) {
            value = 0;
            if (signAt(start) == '0') {
                return -1 - start;
            }
            int at = start;
            while (at < length && isDigit(signs[at])) {
                // held down, so that no number of sixty digits comes round to a small one
                value = Math.min(value * 10 + signs[at] - '0', LONG_LIMIT + 1);
                at++;
            }
            return value < low || value > high ? -1 - start : at;
        }

        private int signAt(int at) {
            return at >= 0 && at < length ? signs[at] : 0;
        }

        private static boolean isDigit(int sign) {
            return sign >= '0' && sign <= '9';
        }
    }

    /** The events that were told since the machine was as at first, those of seconds that are done too. */
    private static final class Diary {
        int count;
        private final int[] seconds = new int[MOST_NOTES];
        private final int[] events = new int[MOST_NOTES];

        boolean add(int second, int event) {
            if (count >= MOST_NOTES || find(second) >= 0) {
                return false;
            }
            seconds[count] = second;
            events[count] = event;
            count++;
            return true;
        }

        int eventOf(int second) {
            int k = find(second);
            return k >= 0 ? events[k] : 0;
        }

        private int find(int second) {
            for (int k = 0; k < count; k++) {
                if (seconds[k] == second) {
                    return k;
                }
            }
            return -1;
        }
    }

    /** One machine. While it clears, place and time are still those of the phase that ended. */
    private static final class Machine {
        private static final int AGE_BITS = 5, WAITS_BITS = 6, WANTED_BITS = 2, PLACE_BITS = 4;
        private static final int LEFT_BITS = 4, TIME_BITS = 5;
        private static final int WAITS_SHIFT = WANTED_BITS + PLACE_BITS + LEFT_BITS + TIME_BITS + PLACE_BITS;

        private final Crossing crossing;
        private final int[] ages = new int[MOST_GROUPS];
        private int place;
        private int time;
        private int left;
        private int coming;
        private int wanted;
        private int waits;
        private int begun;
        private boolean cutShort;

        Machine(Crossing crossing) {
            this.crossing = crossing;
        }

        void reset() {
            place = 0;
            time = 0;
            left = 0;
            coming = 0;
            wanted = 0;
            waits = 0;
            int first = crossing.groupsIn(0);
            Arrays.fill(ages, 0);
            for (int g = 0; g < crossing.groups; g++) {
                ages[g] = (first >> g & 1) != 0 ? 0 : SHORT_LIMIT;
            }
        }

        /** The groups that are shown, as bits. */
        int lit() {
            int groups = crossing.groupsIn(place);
            return left > 0 ? groups & crossing.groupsIn(coming) : groups;
        }

        /** What told() says of a machine; seconds done and the state's number are not its own. */
        int look(int which) {
            switch (which) {
                case 1:
                    return place / MOST_PHASES;
                case 2:
                    return place % MOST_PHASES;
                case 3:
                    return time;
                case 4:
                    return left;
                case 5:
                    return wanted;
                case 6:
                    return waits;
                case 7:
                    return lit();
                default:
                    return which >= 9 && which - 9 < crossing.groups ? ages[which - 9] : BAD;
            }
        }

        /** Does a second with this event: its fault. */
        int step(int event) {
            begun = 0;
            cutShort = false;
            hear(event);
            grow();
            if (left > 0) {
                left--;
                if (left == 0) {
                    enter(coming);
                }
            } else {
                time = Math.min(time + 1, LONG_LIMIT);
                int next = following();
                if (next != place) {
                    leave(next);
                }
            }
            return fault();
        }

        private void hear(int event) {
            int group = event - 1;
            int plan = group - crossing.groups;
            if (crossing.isGroup(group)) {
                waits |= (1 << group) & ~lit();
            } else if (crossing.isPlan(plan)) {
                wanted = plan;
            }
        }

        private void grow() {
            int lit = lit();
            for (int g = 0; g < crossing.groups; g++) {
                int limit = (lit >> g & 1) != 0 ? LONG_LIMIT : SHORT_LIMIT;
                ages[g] = Math.min(ages[g] + 1, limit);
            }
        }

        /** The place that comes now, or this one, if its phase does not end. */
        private int following() {
            boolean elsewhere = wanted != place / MOST_PHASES;
            boolean asked = elsewhere || (waits & ~crossing.groupsIn(place)) != 0;
            if (!crossing.isOver(place, time, asked)) {
                return place;
            }
            return elsewhere ? wanted * MOST_PHASES : crossing.placeBehind(place, waits);
        }

        private void leave(int next) {
            int old = crossing.groupsIn(place);
            int fresh = crossing.groupsIn(next);
            int going = old & ~fresh;
            for (int g = 0; g < crossing.groups; g++) {
                if ((going >> g & 1) != 0) {
                    cutShort |= ages[g] < crossing.leastTimes[g];
                    ages[g] = 0;
                }
            }
            int seconds = crossing.clearing(going, fresh & ~old);
            if (seconds == 0) {
                enter(next);
            } else {
                left = seconds;
                coming = next;
            }
        }

        private void enter(int next) {
            int fresh = crossing.groupsIn(next);
            begun = fresh & ~crossing.groupsIn(place);
            for (int g = 0; g < crossing.groups; g++) {
                if ((begun >> g & 1) != 0) {
                    ages[g] = 0;
                }
            }
            waits &= ~fresh;
            place = next;
            time = 0;
            left = 0;
            // of no meaning now, and 0 so that equal machines are packed alike
            coming = 0;
        }

        private int fault() {
            int lit = lit();
            boolean together = false;
            boolean soon = false;
            boolean over = false;
            for (int g = 0; g < crossing.groups; g++) {
                if ((lit >> g & 1) != 0) {
                    int against = crossing.clashing[g];
                    together |= (against & lit) != 0;
                    soon |= (begun >> g & 1) != 0 && beganTooSoon(g, against & ~lit);
                    over |= ages[g] > crossing.mostTimes[g] && (against & waits) != 0;
                }
            }
            if (together) {
                return 1;
            }
            if (soon) {
                return 2;
            }
            if (cutShort) {
                return 3;
            }
            return over ? 4 : 0;
        }

        private boolean beganTooSoon(int g, int against) {
            for (int h = 0; h < crossing.groups; h++) {
                if ((against >> h & 1) != 0 && ages[h] < crossing.between[h * MOST_GROUPS + g]) {
                    return true;
                }
            }
            return false;
        }

        /** The whole state as one number: equal machines have equal ones. */
        long packed() {
            long key = 0;
            for (int g = MOST_GROUPS - 1; g >= 0; g--) {
                key = key << AGE_BITS | ages[g];
            }
            key = key << WAITS_BITS | waits;
            key = key << WANTED_BITS | wanted;
            key = key << PLACE_BITS | coming;
            key = key << LEFT_BITS | left;
            key = key << TIME_BITS | time;
            return key << PLACE_BITS | place;
        }

        void unpack(long packed) {
            long key = packed;
            place = low(key, PLACE_BITS);
            key >>>= PLACE_BITS;
            time = low(key, TIME_BITS);
            key >>>= TIME_BITS;
            left = low(key, LEFT_BITS);
            key >>>= LEFT_BITS;
            coming = low(key, PLACE_BITS);
            key >>>= PLACE_BITS;
            wanted = low(key, WANTED_BITS);
            key >>>= WANTED_BITS;
            waits = low(key, WAITS_BITS);
            key >>>= WAITS_BITS;
            for (int g = 0; g < MOST_GROUPS; g++) {
                ages[g] = low(key, AGE_BITS);
                key >>>= AGE_BITS;
            }
        }

        static boolean waitsIn(long key, int group) {
            return (key >>> (WAITS_SHIFT + group) & 1) != 0;
        }

        private static int low(long key, int bits) {
            return (int) key & ((1 << bits) - 1);
        }
    }

    /** The states that were found, in their order, and what follows from them. */
    private static final class Proof {
        static final int ENDLESS = -1;
        /** More than twice the states, so that a free slot is always near. */
        private static final int SLOT_BITS = 10;
        private static final int SLOTS = 1 << SLOT_BITS;
        private static final long SPREAD = 0x9E3779B97F4A7C15L;

        int found;
        int verdict = UNPROVED;
        final int[] longestWaits = new int[MOST_GROUPS];
        private final Crossing crossing;
        private final Machine machine;
        private final WaitGraph graph = new WaitGraph();
        private final long[] keys = new long[MOST_STATES];
        private final int[] parents = new int[MOST_STATES];
        private final int[] events = new int[MOST_STATES];
        /** In a slot: 1 more than a state's number, or 0. */
        private final int[] slots = new int[SLOTS];
        private final int[] path = new int[MOST_STATES];
        private int pathLength;
        private int faultEvent;
        private int faultKind;
        private long faultKey;

        Proof(Crossing crossing) {
            this.crossing = crossing;
            machine = new Machine(crossing);
        }

        void forget() {
            if (found > 0) {
                Arrays.fill(slots, 0);
            }
            found = 0;
            verdict = UNPROVED;
        }

        int numberOf(long key) {
            int slot = slotOf(key);
            return slots[slot] > 0 ? slots[slot] - 1 : BAD;
        }

        int search(int limit) {
            forget();
            machine.reset();
            add(machine.packed(), 0, 0);
            verdict = PROVED;
            for (int state = 0; state < limit; state++) {
                if (state >= found || verdict != PROVED) {
                    break;
                }
                verdict = expand(state, limit);
            }
            if (verdict == PROVED) {
                for (int g = 0; g < crossing.groups; g++) {
                    longestWaits[g] = graph.longestChain(keys, found, crossing.eventCount(), g);
                }
            }
            return verdict;
        }

        /** Tries all events in a state. */
        private int expand(int state, int limit) {
            for (int event = 0; event < crossing.eventCount(); event++) {
                machine.unpack(keys[state]);
                int fault = machine.step(event);
                long key = machine.packed();
                if (fault != 0) {
                    faultEvent = event;
                    faultKind = fault;
                    faultKey = key;
                    trace(state);
                    return FAULTY;
                }
                int next = numberOf(key);
                if (next == BAD) {
                    if (found >= limit) {
                        return MORE;
                    }
                    next = add(key, state, event);
                }
                graph.link(state, event, next);
            }
            return PROVED;
        }

        private int add(long key, int parent, int event) {
            int number = found;
            if (number >= MOST_STATES) {
                return BAD;
            }
            keys[number] = key;
            parents[number] = parent;
            events[number] = event;
            found++;
            slots[slotOf(key)] = found;
            return number;
        }

        /** The slot that this state has, or would have. */
        private int slotOf(long key) {
            int slot = (int) ((key * SPREAD) >>> (64 - SLOT_BITS));
            for (int tries = 0; tries < SLOTS; tries++) {
                int number = slots[slot] - 1;
                if (number < 0 || keys[number] == key) {
                    return slot;
                }
                slot = (slot + 1) & (SLOTS - 1);
            }
            return slot;
        }

        /** Keeps the states from the first one to this one, without the first. */
        private void trace(int last) {
            pathLength = 0;
            for (int at = last; at > 0 && pathLength < MOST_STATES; at = parents[at]) {
                path[pathLength] = at;
                pathLength++;
            }
        }

        int rowEntry(int k, int what) {
            if (verdict != FAULTY || k < 0 || k > pathLength || what < 0 || what > 6) {
                return BAD;
            }
            boolean isLast = k == pathLength;
            int state = isLast ? 0 : path[pathLength - 1 - k];
            if (what == 0) {
                return isLast ? faultEvent : events[state];
            }
            if (what == 6) {
                return isLast ? faultKind : 0;
            }
            machine.unpack(isLast ? faultKey : keys[state]);
            return machine.look(lookFor(what));
        }

        private static int lookFor(int what) {
            switch (what) {
                case 3:
                    return 7;
                case 5:
                    return 6;
                default:
                    return what;
            }
        }
    }

    /** Which states follow which, and the longest chains of states in which a group waits. */
    private static final class WaitGraph {
        private final int[] nexts = new int[MOST_STATES * MOST_EVENTS];
        /** Of each state: edges to it from states in which the group waits that are not followed yet. */
        private final int[] unfollowed = new int[MOST_STATES];
        private final int[] depths = new int[MOST_STATES];
        private final int[] queue = new int[MOST_STATES];

        void link(int state, int event, int next) {
            int at = state * MOST_EVENTS + event;
            if (at >= 0 && at < nexts.length && next >= 0 && next < MOST_STATES) {
                nexts[at] = next;
            }
        }

        /**
         * How many states the longest chain has in which the group waits all the time.
         * States are taken when all that lead to them are: those of a ring never are.
         */
        int longestChain(long[] keys, int states, int events, int group) {
            int waiting = countEdges(keys, states, events, group);
            int queued = 0;
            for (int s = 0; s < states; s++) {
                if (Machine.waitsIn(keys[s], group) && unfollowed[s] == 0) {
                    queue[queued] = s;
                    queued++;
                }
            }
            int deepest = 0;
            for (int k = 0; k < waiting && k < queued; k++) {
                int s = queue[k];
                deepest = Math.max(deepest, depths[s]);
                for (int e = 0; e < events; e++) {
                    int next = nexts[s * MOST_EVENTS + e];
                    if (Machine.waitsIn(keys[next], group)) {
                        depths[next] = Math.max(depths[next], depths[s] + 1);
                        unfollowed[next]--;
                        if (unfollowed[next] == 0 && queued < waiting) {
                            queue[queued] = next;
                            queued++;
                        }
                    }
                }
            }
            return queued < waiting ? Proof.ENDLESS : deepest;
        }

        /** Counts what leads to each state, and answers in how many the group waits. */
        private int countEdges(long[] keys, int states, int events, int group) {
            Arrays.fill(unfollowed, 0);
            Arrays.fill(depths, 1);
            int waiting = 0;
            for (int s = 0; s < states; s++) {
                if (Machine.waitsIn(keys[s], group)) {
                    waiting++;
                    for (int e = 0; e < events; e++) {
                        unfollowed[nexts[s * MOST_EVENTS + e]]++;
                    }
                }
            }
            return waiting;
        }
    }
}
