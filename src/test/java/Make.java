/** Makes crossings for tests. */
final class Make {
    private Make() { }

    /** A crossing with these groups and plans, all of which must be right. */
    static SignalProofs crossing(int groups, String... plans) {
        SignalProofs x = new SignalProofs();
        x.begin(groups);
        for (String plan : plans) {
            Check.due("read " + plan, read(x, plan) > 0, true);
        }
        return x;
    }

    /** What read() answers to a text, sign by sign. */
    static int read(SignalProofs x, String text) {
        collect(x, text);
        return x.read();
    }

    static void collect(SignalProofs x, String text) {
        for (int k = 0; k < text.length(); k++) {
            Check.due("unit", x.unit(text.charAt(k)), true);
        }
    }

    /** Does so many seconds, all of them without a fault. */
    static void seconds(SignalProofs x, int count) {
        for (int k = 0; k < count; k++) {
            Check.due("a second without a fault", x.second(), 0);
        }
    }
}
