/** What the tests of single cases share: an object, the answers due of it, and a small town to begin with. */
class Cases {
    static final Check CHECK = new Check();
    static final int LOW = Integer.MIN_VALUE, HIGH = Integer.MAX_VALUE;
    static WheelDocks d;

    static void due(String what, Object want, Check.Call call) {
        CHECK.due(what, want, call);
    }

    static void done(String what, String want, Check.Deed deed) {
        CHECK.doneDue(what, want, deed);
    }

    static void yes(String what, boolean got) {
        CHECK.same(what, "true", "" + got);
    }

    static void no(String what, boolean got) {
        CHECK.same(what, "false", "" + got);
    }

    static void is(String what, int want, int got) {
        CHECK.same(what, "" + want, "" + got);
    }

    static void fresh() {
        d = new WheelDocks();
    }

    /** A new object whose stations 0 to 3 have two places each, with the cycles 0 and 1 at station 0. */
    static void begin() {
        fresh();
        for (int station = 0; station < 4; station++) {
            d.docks(station, 2);
        }
        d.put(0, 0);
        d.put(1, 0);
    }

    /** The town of begin() with the cycles 0 and 1 ridden by the riders 0 and 1 from minute 0 on. */
    static void beginRidden() {
        begin();
        d.unlocked(0, 0, 0);
        d.unlocked(1, 1, 0);
    }

    /** Lets more minutes pass than one call can. */
    static void passTo(int from, int to) {
        for (int minute = from; minute < to; minute = Math.min(to, minute + 600)) {
            d.pass(Math.min(600, to - minute));
        }
    }
}
