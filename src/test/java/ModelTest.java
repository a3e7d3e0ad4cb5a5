import java.util.Random;

/** Random, but repeatable, runs of calls on the program and on the plain model: all answers are alike. */
public final class ModelTest {
    private static final int RUNS = 1000, PROOFS = 2000, CALLS = 500;
    private static final int[] ODD = {
        Integer.MIN_VALUE, -65536, -2, -1, 6, 7, 16, 32, 60, 100, 101, 400, 401, 65536, Integer.MAX_VALUE,
    };

    private final Random random;
    private final SignalProofs program = new SignalProofs();
    private final PlainModel model = new PlainModel();
    private int groups = 1;
    private int calls;

    private ModelTest(long seed) {
        random = new Random(seed);
    }

    public static void main(String[] args) {
        for (int run = 0; run < RUNS; run++) {
            new ModelTest(run).run(run);
        }
        for (int run = RUNS; run < RUNS + PROOFS; run++) {
            new ModelTest(run).prove(run);
        }
        Check.end();
    }

    private void run(int run) {
        while (calls < CALLS) {
            String where = "run " + run + ", call " + calls + ": ";
            int kind = random.nextInt(100);
            if (kind < 5) {
                begin(where, random.nextInt(4) == 0 ? odd() : 1 + random.nextInt(random.nextInt(4) == 0 ? 6 : 4));
            } else if (kind < 12) {
                text(where);
            } else if (kind < 22) {
                bounds(where);
            } else if (kind < 34) {
                events(where);
            } else if (kind < 60) {
                seconds(where);
            } else if (kind < 68) {
                proof(where);
            } else if (kind < 72) {
                int seconds = number(8, 101);
                same(where + "same " + seconds, program.same(seconds), model.same(seconds));
            } else {
                look(where);
            }
        }
    }

    /** A small crossing, whose states are mostly all found, and what follows from them. */
    private void prove(int run) {
        String where = "run " + run + ": ";
        begin(where, 2 + random.nextInt(2));
        for (int plans = random.nextInt(3); plans >= 0; plans--) {
            text(where);
        }
        for (int k = random.nextInt(4); k > 0; k--) {
            bounds(where);
        }
        proof(where);
    }

    private int odd() {
        return ODD[random.nextInt(ODD.length)];
    }

    /** Mostly small, sometimes great, seldom odd. */
    private int number(int small, int great) {
        int kind = random.nextInt(20);
        return kind == 0 ? odd() : kind < 5 ? random.nextInt(great + 1) : random.nextInt(small);
    }

    private int group() {
        return random.nextInt(15) == 0 ? odd() : random.nextInt(groups);
    }

    private void same(String what, long got, long want) {
        calls++;
        Check.due(what, got, want);
    }

    private void same(String what, boolean got, boolean want) {
        same(what, got ? 1 : 0, want ? 1 : 0);
    }

    private void sameThrown(String what, Check.Call got, Check.Call want) {
        calls++;
        Check.due(what, Check.thrown(got), Check.thrown(want));
    }

    private void begin(String where, int n) {
        sameThrown(where + "begin " + n, () -> program.begin(n), () -> model.begin(n));
        if (n >= 1 && n <= 6) {
            groups = n;
        }
    }

    private void text(String where) {
        StringBuilder text = new StringBuilder();
        int phases = random.nextInt(30) == 0 ? 6 : 1 + random.nextInt(random.nextInt(5) == 0 ? 5 : 3);
        for (int k = 0; k < phases; k++) {
            text.append(k == 0 ? "" : ";");
            int members = 1 + random.nextInt((1 << groups) - 1);
            for (int g = 0; g < groups; g++) {
                if ((members >> g & 1) != 0) {
                    text.append((char) ('A' + g));
                }
            }
            int low = random.nextInt(8) == 0 ? 1 + random.nextInt(15) : 1 + random.nextInt(3);
            int high = random.nextInt(8) == 0 ? low + random.nextInt(32 - low) : low + random.nextInt(3);
            text.append(low).append('-').append(high);
        }
        String signs = "ABCDEFGa0123456789-; ~";
        if (random.nextInt(3) == 0) {
            char sign = signs.charAt(random.nextInt(signs.length()));
            int at = random.nextInt(text.length());
            if (random.nextBoolean()) {
                text.insert(at, sign);
            } else if (random.nextBoolean()) {
                text.setCharAt(at, sign);
            } else {
                text.setLength(at);
            }
        }
        for (int k = 0; k < text.length(); k++) {
            int u = random.nextInt(500) == 0 ? odd() : text.charAt(k);
            same(where + "unit " + u, program.unit(u), model.unit(u));
        }
        same(where + "read " + text, program.read(), model.read());
        same(where + "program", program.program(), model.program());
    }

    private void bounds(String where) {
        int a = group();
        int b = group();
        int seconds = number(4, 33);
        int kind = random.nextInt(4);
        String what = where + "bound " + kind + " " + a + " " + b + " " + seconds;
        boolean[] got = new boolean[2];
        if (kind < 2) {
            sameThrown(what, () -> got[0] = program.clash(a, b, seconds), () -> got[1] = model.clash(a, b, seconds));
        } else if (kind == 2) {
            sameThrown(what, () -> got[0] = program.least(a, seconds), () -> got[1] = model.least(a, seconds));
        } else {
            sameThrown(what, () -> got[0] = program.most(a, seconds), () -> got[1] = model.most(a, seconds));
        }
        Check.due(what, got[0], got[1]);
    }

    private void events(String where) {
        int times = random.nextInt(40) == 0 ? 70 : 1 + random.nextInt(3);
        int soon = Math.max(0, program.told(0));
        for (int k = 0; k < times; k++) {
            int second = random.nextInt(10) == 0 ? odd() : soon + random.nextInt(times < 9 ? 6 : 120);
            if (random.nextInt(4) > 0) {
                int g = group();
                same(where + "call " + g + " " + second, program.call(g, second), model.call(g, second));
            } else {
                int p = number(3, 3);
                same(where + "plan " + p + " " + second, program.plan(p, second), model.plan(p, second));
            }
        }
    }

    private void seconds(String where) {
        int times = 1 + random.nextInt(random.nextInt(10) == 0 ? 40 : 4);
        for (int k = 0; k < times; k++) {
            same(where + "second", program.second(), model.second());
        }
        for (int which = 0; which < 9 + groups; which++) {
            same(where + "told " + which, program.told(which), model.told(which));
        }
    }

    private void proof(String where) {
        int states = random.nextInt(3) == 0 ? number(60, 401) : 400;
        same(where + "prove " + states, program.prove(states), model.prove(states));
        same(where + "states", program.states(), model.states());
        same(where + "answered", program.answered(), model.answered());
        for (int g = -1; g <= groups; g++) {
            same(where + "longest " + g, program.longest(g), model.longest(g));
            same(where + "ring " + g, program.ring(g), model.ring(g));
        }
        for (int k = 0; k < 5; k++) {
            for (int what = 0; what < 7; what++) {
                same(where + "row " + k + " " + what, program.row(k, what), model.row(k, what));
            }
        }
    }

    private void look(String where) {
        int g = group();
        int k = number(12, 40);
        int what = number(7, 8);
        long in = number(60, 1001);
        long out = number(60, 1001);
        int speed = number(12, 51);
        switch (random.nextInt(7)) {
            case 0 -> same(where + "shown " + g, program.shown(g), model.shown(g));
            case 1 -> same(where + "told " + k, program.told(k), model.told(k));
            case 2 -> same(where + "row " + k + " " + what, program.row(k, what), model.row(k, what));
            case 3 -> same(where + "longest " + g, program.longest(g), model.longest(g));
            case 4 -> same(where + "ring " + k, program.ring(k), model.ring(k));
            case 5 -> same(where + "answered", program.answered(), model.answered());
            default -> same(where + "from", program.from(in, out, speed), model.from(in, out, speed));
        }
    }
}
