import java.util.ArrayList;
import java.util.Arrays;
import java.util.HashMap;
import java.util.HashSet;
import java.util.LinkedHashMap;
import java.util.List;
import java.util.Map;
import java.util.Set;
import java.util.TreeMap;
import java.util.TreeSet;

/** The document once more, in sets, maps and texts, with no thought of speed or room. */
final class PlainModel {
    record Phase(TreeSet<Integer> groups, int least, int most) { }

    /** A machine; never changed once it is made. Clearing: next is not null. */
    record State(int plan, int phase, int t, int left, List<Integer> next, int wanted,
                 TreeSet<Integer> waits, List<Integer> ages) { }

    /** A second: the state behind it and its fault. */
    record Second(State state, int fault) { }

    /** How a state was found. */
    record Origin(State from, int event) { }

    private int n;
    private Set<List<Integer>> clashes;
    private Map<List<Integer>, Integer> between;
    private int[] least;
    private int[] most;
    private List<List<Phase>> plans;
    private StringBuilder text;
    private TreeMap<Integer, Integer> events;
    private State machine;
    private int done;

    private LinkedHashMap<State, Origin> found;
    private Map<State, List<State>> followers;
    private int verdict;
    private List<State> rowStates;
    private List<Integer> rowEvents;
    private int rowFault;

    PlainModel() {
        begin(1);
    }

    void begin(int groups) {
        if (groups < 0) {
            throw new NegativeArraySizeException();
        }
        if (groups == 0 || groups > 6) {
            throw new IllegalArgumentException();
        }
        n = groups;
        clashes = new HashSet<>();
        between = new HashMap<>();
        least = new int[n];
        Arrays.fill(least, 1);
        most = new int[n];
        Arrays.fill(most, 31);
        plans = new ArrayList<>();
        text = new StringBuilder();
        afresh();
    }

    private void afresh() {
        events = new TreeMap<>();
        done = 0;
        machine = first();
        unprove();
    }

    private void unprove() {
        found = new LinkedHashMap<>();
        followers = new HashMap<>();
        verdict = -1;
    }

    private State first() {
        if (plans.isEmpty()) {
            return null;
        }
        List<Integer> ages = new ArrayList<>();
        for (int g = 0; g < n; g++) {
            ages.add(plans.get(0).get(0).groups().contains(g) ? 0 : 15);
        }
        return new State(0, 0, 0, 0, null, 0, new TreeSet<>(), ages);
    }

    private boolean group(int g) {
        return 0 <= g && g < n;
    }

    private void mustBeGroup(int g) {
        if (!group(g)) {
            throw new ArrayIndexOutOfBoundsException();
        }
    }

    boolean clash(int a, int b, int seconds) {
        mustBeGroup(a);
        mustBeGroup(b);
        if (a == b || seconds < 0 || seconds > 15) {
            return false;
        }
        clashes.add(List.of(a, b));
        clashes.add(List.of(b, a));
        between.put(List.of(a, b), seconds);
        afresh();
        return true;
    }

    boolean least(int g, int seconds) {
        mustBeGroup(g);
        if (seconds < 1 || seconds > 15) {
            return false;
        }
        least[g] = seconds;
        afresh();
        return true;
    }

    boolean most(int g, int seconds) {
        mustBeGroup(g);
        if (seconds < 1 || seconds > 31) {
            return false;
        }
        most[g] = seconds;
        afresh();
        return true;
    }

    boolean unit(int u) {
        if (u < 32 || u > 126 || text.length() == 60) {
            return false;
        }
        text.append((char) u);
        return true;
    }

    int read() {
        String s = text.toString();
        text = new StringBuilder();
        List<Phase> plan = new ArrayList<>();
        int wrong = parse(s, plan);
        if (wrong < 0 && plans.size() == 3) {
            wrong = s.length();
        }
        if (wrong >= 0) {
            return -1 - wrong;
        }
        plans.add(plan);
        afresh();
        return plan.size();
    }

    /** The first wrong sign, or -1. */
    private int parse(String s, List<Phase> plan) {
        int at = 0;
        while (true) {
            TreeSet<Integer> groups = new TreeSet<>();
            while (at < s.length() && Character.isUpperCase(s.charAt(at))) {
                int g = s.charAt(at) - 'A';
                if (!group(g) || !groups.isEmpty() && groups.last() >= g) {
                    return at;
                }
                groups.add(g);
                at++;
            }
            String low = digits(s, at);
            if (groups.isEmpty() || low.isEmpty() || !between(low, 1, 15)) {
                return at;
            }
            at += low.length();
            if (!s.startsWith("-", at)) {
                return at;
            }
            at++;
            String high = digits(s, at);
            if (high.isEmpty() || !between(high, Integer.parseInt(low), 31)) {
                return at;
            }
            at += high.length();
            plan.add(new Phase(groups, Integer.parseInt(low), Integer.parseInt(high)));
            if (at == s.length()) {
                return -1;
            }
            if (s.charAt(at) != ';' || plan.size() == 5) {
                return at;
            }
            at++;
        }
    }

    private static String digits(String s, int at) {
        int end = at;
        while (end < s.length() && Character.isDigit(s.charAt(end))) {
            end++;
        }
        return s.substring(at, end);
    }

    private static boolean between(String number, int low, int high) {
        return !number.startsWith("0") && number.length() < 3
            && Integer.parseInt(number) >= low && Integer.parseInt(number) <= high;
    }

    int program() {
        return plans.size();
    }

    boolean call(int g, int second) {
        return group(g) && tell(1 + g, second);
    }

    boolean plan(int p, int second) {
        return 0 <= p && p < plans.size() && tell(1 + n + p, second);
    }

    private boolean tell(int event, int second) {
        if (second <= done || events.containsKey(second) || events.size() == 60) {
            return false;
        }
        events.put(second, event);
        return true;
    }

    int second() {
        if (machine == null) {
            return -1;
        }
        done++;
        Second s = after(machine, events.getOrDefault(done, 0));
        machine = s.state();
        return s.fault();
    }

    private TreeSet<Integer> groupsOf(int plan, int phase) {
        return plans.get(plan).get(phase).groups();
    }

    private TreeSet<Integer> shownIn(State s) {
        TreeSet<Integer> shown = new TreeSet<>(groupsOf(s.plan(), s.phase()));
        if (s.next() != null) {
            shown.retainAll(groupsOf(s.next().get(0), s.next().get(1)));
        }
        return shown;
    }

    private Second after(State s, int event) {
        TreeSet<Integer> waits = new TreeSet<>(s.waits());
        TreeSet<Integer> before = shownIn(s);
        int wanted = s.wanted();
        if (event >= 1 && event <= n && !before.contains(event - 1)) {
            waits.add(event - 1);
        }
        if (event > n && event - 1 - n < plans.size()) {
            wanted = event - 1 - n;
        }
        List<Integer> ages = new ArrayList<>();
        for (int g = 0; g < n; g++) {
            ages.add(Math.min(s.ages().get(g) + 1, before.contains(g) ? 31 : 15));
        }
        State behind;
        boolean early = false;
        if (s.next() != null) {
            behind = s.left() > 1
                ? new State(s.plan(), s.phase(), s.t(), s.left() - 1, s.next(), wanted, waits, ages)
                : begun(s.next(), before, wanted, waits, ages);
        } else {
            int t = Math.min(31, s.t() + 1);
            List<Integer> comes = comes(s, t, wanted, waits);
            if (comes == null) {
                behind = new State(s.plan(), s.phase(), t, 0, null, wanted, waits, ages);
            } else {
                TreeSet<Integer> fresh = groupsOf(comes.get(0), comes.get(1));
                int clear = 0;
                for (int a : before) {
                    if (!fresh.contains(a)) {
                        early |= ages.get(a) < least[a];
                        ages.set(a, 0);
                        for (int b : fresh) {
                            if (!before.contains(b)) {
                                clear = Math.max(clear, between.getOrDefault(List.of(a, b), 0));
                            }
                        }
                    }
                }
                behind = clear == 0 ? begun(comes, before, wanted, waits, ages)
                    : new State(s.plan(), s.phase(), t, clear, comes, wanted, waits, ages);
            }
        }
        return new Second(behind, fault(before, behind, early));
    }

    private static State begunState(List<Integer> at, int wanted, TreeSet<Integer> waits, List<Integer> ages) {
        return new State(at.get(0), at.get(1), 0, 0, null, wanted, waits, ages);
    }

    private State begun(List<Integer> at, Set<Integer> before, int wanted, TreeSet<Integer> waits,
                        List<Integer> ages) {
        for (int g : groupsOf(at.get(0), at.get(1))) {
            if (!before.contains(g)) {
                ages.set(g, 0);
            }
            waits.remove(g);
        }
        return begunState(at, wanted, waits, ages);
    }

    /** What comes, or null if the phase does not end. */
    private List<Integer> comes(State s, int t, int wanted, Set<Integer> waits) {
        List<Phase> plan = plans.get(s.plan());
        Phase phase = plan.get(s.phase());
        Set<Integer> strangers = new TreeSet<>(waits);
        strangers.removeAll(phase.groups());
        boolean asked = !strangers.isEmpty() || wanted != s.plan();
        if (t < phase.most() && !(t >= phase.least() && asked)) {
            return null;
        }
        if (wanted != s.plan()) {
            return List.of(wanted, 0);
        }
        int comes = (s.phase() + 1) % plan.size();
        for (int k = plan.size(); k >= 1; k--) {
            int other = (s.phase() + k) % plan.size();
            if (plan.get(other).groups().stream().anyMatch(waits::contains)) {
                comes = other;
            }
        }
        return comes == s.phase() ? null : List.of(s.plan(), comes);
    }

    private int fault(Set<Integer> before, State behind, boolean early) {
        TreeSet<Integer> shown = shownIn(behind);
        int fault = 9;
        for (List<Integer> pair : clashes) {
            int a = pair.get(0);
            int b = pair.get(1);
            if (shown.contains(a) && shown.contains(b)) {
                fault = Math.min(fault, 1);
            }
            if (shown.contains(b) && !before.contains(b) && !shown.contains(a)
                    && behind.ages().get(a) < between.getOrDefault(pair, 0)) {
                fault = Math.min(fault, 2);
            }
            if (shown.contains(a) && behind.ages().get(a) > most[a] && behind.waits().contains(b)) {
                fault = Math.min(fault, 4);
            }
        }
        if (early) {
            fault = Math.min(fault, 3);
        }
        return fault == 9 ? 0 : fault;
    }

    private static int bits(Set<Integer> groups) {
        return groups.stream().mapToInt(g -> 1 << g).sum();
    }

    int told(int which) {
        if (machine == null || which < 0 || which > 8 + n) {
            return -1;
        }
        switch (which) {
            case 0: return done;
            case 1: return machine.plan();
            case 2: return machine.phase();
            case 3: return machine.t();
            case 4: return machine.left();
            case 5: return machine.wanted();
            case 6: return bits(machine.waits());
            case 7: return bits(shownIn(machine));
            case 8: return new ArrayList<>(found.keySet()).indexOf(machine);
            default: return machine.ages().get(which - 9);
        }
    }

    int shown(int g) {
        if (machine == null || !group(g)) {
            return -1;
        }
        return shownIn(machine).contains(g) ? 1 : 0;
    }

    int prove(int states) {
        unprove();
        if (machine == null || states < 1 || states > 400) {
            return -1;
        }
        verdict = search(states);
        return verdict;
    }

    private int search(int limit) {
        List<State> list = new ArrayList<>();
        list.add(first());
        found.put(first(), new Origin(null, 0));
        for (int k = 0; k < list.size(); k++) {
            State s = list.get(k);
            followers.put(s, new ArrayList<>());
            for (int event = 0; event <= n + 3; event++) {
                Second x = after(s, event);
                if (x.fault() != 0) {
                    keepRow(s, event, x);
                    return 0;
                }
                if (!found.containsKey(x.state())) {
                    if (list.size() == limit) {
                        return 2;
                    }
                    list.add(x.state());
                    found.put(x.state(), new Origin(s, event));
                }
                followers.get(s).add(x.state());
            }
        }
        return 1;
    }

    private void keepRow(State last, int event, Second x) {
        rowStates = new ArrayList<>(List.of(x.state()));
        rowEvents = new ArrayList<>(List.of(event));
        rowFault = x.fault();
        for (State s = last; found.get(s).from() != null; s = found.get(s).from()) {
            rowStates.add(0, s);
            rowEvents.add(0, found.get(s).event());
        }
    }

    int states() {
        return found.size();
    }

    int row(int k, int what) {
        if (verdict != 0 || k < 0 || k >= rowStates.size()) {
            return -1;
        }
        State s = rowStates.get(k);
        switch (what) {
            case 0: return rowEvents.get(k);
            case 1: return s.plan();
            case 2: return s.phase();
            case 3: return bits(shownIn(s));
            case 4: return s.left();
            case 5: return bits(s.waits());
            case 6: return k == rowStates.size() - 1 ? rowFault : 0;
            default: return -1;
        }
    }

    int longest(int g) {
        if (verdict != 1 || !group(g)) {
            return -2;
        }
        // the states from which the group can still wait after so many seconds; if these never end, nor does it
        Set<State> left = new HashSet<>();
        for (State s : found.keySet()) {
            if (s.waits().contains(g)) {
                left.add(s);
            }
        }
        int seconds = 0;
        while (!left.isEmpty()) {
            seconds++;
            if (seconds > found.size()) {
                return -1;
            }
            Set<State> still = new HashSet<>();
            for (State s : left) {
                if (followers.get(s).stream().anyMatch(left::contains)) {
                    still.add(s);
                }
            }
            left = still;
        }
        return seconds;
    }

    int ring(int k) {
        List<Integer> endless = new ArrayList<>();
        for (int g = 0; g < n; g++) {
            if (longest(g) == -1) {
                endless.add(g);
            }
        }
        return k >= 0 && k < endless.size() ? endless.get(k) : -1;
    }

    boolean answered() {
        return verdict == 1 && ring(0) == -1;
    }

    boolean same(int seconds) {
        if (machine == null || verdict == -1 || seconds < 0 || seconds > 100 || !found.containsKey(machine)) {
            return false;
        }
        State s = machine;
        for (int k = 1; k <= seconds; k++) {
            Second x = after(s, events.getOrDefault(done + k, 0));
            if (x.fault() != 0 || !found.containsKey(x.state())) {
                return false;
            }
            s = x.state();
        }
        return true;
    }

    int from(long in, long out, int speed) {
        if (in < 0 || in > 1000 || out < 0 || out > 1000 || speed < 1 || speed > 50) {
            return -1;
        }
        return (int) Math.max(0, (long) Math.ceil((double) out / speed) - (long) Math.floor((double) in / speed));
    }
}
