import java.util.ArrayList;
import java.util.List;

/**
 * What is refused, at every call: each argument just inside and just outside of its range and where numbers
 * wrap around, the first one of several exceptions, the 300 that are heard, and that nothing has changed then.
 */
public final class RefusalsTest extends Cases {
    private interface With {
        Object answer(int value);
    }

    private interface On {
        Object answer(WheelDocks docks);
    }

    /** A call with the exception that is due of it. */
    private record Refused(String name, String want, On call) { }

    public static void main(String[] args) {
        stationsNoughtToSeven();
        cyclesNoughtTo29();
        ridersNoughtToNine();
        valuesOutOfRange();
        questionsOutOfRange();
        minutesSixtyAheadOfNow();
        passToTheLastMinute();
        firstOfSeveralExceptions();
        refusedChangesNothing();
        refusedBehind300ChangesNothing();
        eachKindIsThe300th();
        eachOfAKindIsOneOf300();
        notOneOf300();
        heardAlready();
        atMost512Calls();
        objectsStandAlone();
        CHECK.end("RefusalsTest");
    }

    /** From low to high a call throws nothing; beside, and where a narrower number would wrap, it throws. */
    private static void range(String name, int low, int high, String wrong, With call) {
        for (int value : new int[] {low, high}) {
            String said = Check.said(() -> call.answer(value));
            CHECK.same(name + " " + value + " is refused", "false", "" + said.startsWith("throws."));
        }
        for (int value : new int[] {low - 1, high + 1, LOW, HIGH, LOW + low, low + 256, high - 256,
                low + 65536, high - 65536, -high - 1}) {
            if (value < low || value > high) {
                due(name + " " + value, wrong, () -> call.answer(value));
            }
        }
    }

    private static void index(String name, int count, With call) {
        fresh();
        range(name, 0, count - 1, Check.INDEX, call);
    }

    private static void stationsNoughtToSeven() {
        index("lies, station", 8, v -> nothing(() -> d.lies(v, 1, 1, 1)));
        index("docks, station", 8, v -> nothing(() -> d.docks(v, 1)));
        index("put, station", 8, v -> d.put(0, v));
        index("locked, station", 8, v -> d.locked(0, v, 0));
        index("promise, station", 8, v -> d.promise(0, v));
        index("station, station", 8, v -> d.station(v, 0));
        index("nearest, station", 8, v -> d.nearest(v));
        index("way, station", 8, v -> d.way(v, 0));
        index("way, other", 8, v -> d.way(0, v));
    }

    private static void cyclesNoughtTo29() {
        index("put, cycle", 30, v -> d.put(v, 0));
        index("take, cycle", 30, v -> d.take(v));
        index("unlocked, cycle", 30, v -> d.unlocked(v, 0, 0));
        index("locked, cycle", 30, v -> d.locked(v, 0, 0));
        index("faulty, cycle", 30, v -> d.faulty(v, 0, 0));
        index("mend, cycle", 30, v -> d.mend(v));
        index("cycle, cycle", 30, v -> d.cycle(v, 0));
    }

    private static void ridersNoughtToNine() {
        index("unlocked, rider", 10, v -> d.unlocked(0, v, 0));
        index("faulty, rider", 10, v -> d.faulty(0, v, 0));
        index("promise, rider", 10, v -> d.promise(v, 0));
        index("rider, rider", 10, v -> d.rider(v, 0));
    }

    private static Object nothing(Check.Deed deed) {
        deed.happen();
        return Check.NOTHING;
    }

    private static void valuesOutOfRange() {
        fresh();
        range("lies, x", 0, 99, Check.ARGUMENT, v -> nothing(() -> d.lies(0, v, 0, 0)));
        range("lies, y", 0, 99, Check.ARGUMENT, v -> nothing(() -> d.lies(0, 0, v, 0)));
        range("lies, height", 0, 99, Check.ARGUMENT, v -> nothing(() -> d.lies(0, 0, 0, v)));
        range("docks, places", 0, 20, Check.ARGUMENT, v -> nothing(() -> d.docks(0, v)));
        range("price", 0, 99, Check.ARGUMENT, v -> nothing(() -> d.price(v)));
        range("pass", 1, 600, Check.ARGUMENT, v -> d.pass(v));
        is("of all these 601 minutes passed", 602, d.pass(1));
    }

    private static void questionsOutOfRange() {
        fresh();
        range("cycle, what", 0, 3, Check.ARGUMENT, v -> d.cycle(29, v));
        range("station, what", 0, 4, Check.ARGUMENT, v -> d.station(7, v));
        range("rider, what", 0, 4, Check.ARGUMENT, v -> d.rider(9, v));
    }

    private static void minutesSixtyAheadOfNow() {
        for (int now : new int[] {0, 1, 59, 60, 61, 62, 600, 19999, 20000}) {
            fresh();
            passTo(0, now);
            int least = Math.max(0, now - 60);
            range("unlocked at " + now + ", minute", least, now, Check.ARGUMENT, v -> d.unlocked(0, 0, v));
            range("locked at " + now + ", minute", least, now, Check.ARGUMENT, v -> d.locked(0, 0, v));
            range("faulty at " + now + ", minute", least, now, Check.ARGUMENT, v -> d.faulty(0, 0, v));
        }
    }

    private static void passToTheLastMinute() {
        fresh();
        passTo(0, 19800);
        due("pass to 20001", Check.STATE, () -> d.pass(201));
        due("pass to 20400", Check.STATE, () -> d.pass(600));
        is("a refused pass lets none pass", 19999, d.pass(199));
        due("pass from 19999 to 20001", Check.STATE, () -> d.pass(2));
        is("pass to 20000", 20000, d.pass(1));
        due("pass to 20001 from 20000", Check.STATE, () -> d.pass(1));
        due("pass of 600 at 20000", Check.STATE, () -> d.pass(600));
        due("pass out of range at 20000", Check.ARGUMENT, () -> d.pass(601));
        due("pass of none at 20000", Check.ARGUMENT, () -> d.pass(0));
        due("pass that wraps around", Check.ARGUMENT, () -> d.pass(HIGH));
        is("20000 minutes were empty", 20000, d.station(0, 4));
    }

    /** Calls that two or three reasons forbid, of an object that has heard 300, at 100. */
    private static List<Refused> refusedForSeveral() {
        List<Refused> all = new ArrayList<>();
        all.add(new Refused("docks(8, 21)", Check.INDEX, w -> nothing(() -> w.docks(8, 21))));
        all.add(new Refused("docks(-1, 5)", Check.INDEX, w -> nothing(() -> w.docks(-1, 5))));
        all.add(new Refused("docks(7, 21)", Check.ARGUMENT, w -> nothing(() -> w.docks(7, 21))));
        all.add(new Refused("put(30, 0)", Check.INDEX, w -> w.put(30, 0)));
        all.add(new Refused("put(0, 8)", Check.INDEX, w -> w.put(0, 8)));
        all.add(new Refused("put(-1, -1)", Check.INDEX, w -> w.put(-1, -1)));
        all.add(new Refused("take(30)", Check.INDEX, w -> w.take(30)));
        all.add(new Refused("unlocked(30, 0, 101)", Check.INDEX, w -> w.unlocked(30, 0, 101)));
        all.add(new Refused("unlocked(0, 10, 39)", Check.INDEX, w -> w.unlocked(0, 10, 39)));
        all.add(new Refused("unlocked(0, 10, 100)", Check.INDEX, w -> w.unlocked(0, 10, 100)));
        all.add(new Refused("unlocked(0, 9, 39)", Check.ARGUMENT, w -> w.unlocked(0, 9, 39)));
        all.add(new Refused("unlocked(0, 9, 101)", Check.ARGUMENT, w -> w.unlocked(0, 9, 101)));
        all.add(new Refused("locked(30, 0, 101)", Check.INDEX, w -> w.locked(30, 0, 101)));
        all.add(new Refused("locked(0, 8, 39)", Check.INDEX, w -> w.locked(0, 8, 39)));
        all.add(new Refused("locked(0, 8, 100)", Check.INDEX, w -> w.locked(0, 8, 100)));
        all.add(new Refused("locked(0, 7, 39)", Check.ARGUMENT, w -> w.locked(0, 7, 39)));
        all.add(new Refused("locked(0, 7, 101)", Check.ARGUMENT, w -> w.locked(0, 7, 101)));
        all.add(new Refused("faulty(30, 0, 101)", Check.INDEX, w -> w.faulty(30, 0, 101)));
        all.add(new Refused("faulty(0, 10, 39)", Check.INDEX, w -> w.faulty(0, 10, 39)));
        all.add(new Refused("faulty(0, 10, 100)", Check.INDEX, w -> w.faulty(0, 10, 100)));
        all.add(new Refused("faulty(0, 9, 39)", Check.ARGUMENT, w -> w.faulty(0, 9, 39)));
        all.add(new Refused("faulty(0, 9, 101)", Check.ARGUMENT, w -> w.faulty(0, 9, 101)));
        all.add(new Refused("mend(30)", Check.INDEX, w -> w.mend(30)));
        all.add(new Refused("price(100)", Check.ARGUMENT, w -> nothing(() -> w.price(100))));
        all.add(new Refused("price(-1)", Check.ARGUMENT, w -> nothing(() -> w.price(-1))));
        all.add(new Refused("promise(10, 0)", Check.INDEX, w -> w.promise(10, 0)));
        all.add(new Refused("promise(0, 8)", Check.INDEX, w -> w.promise(0, 8)));
        return all;
    }

    /** Calls that are refused for a reason beside the 300, in any object. */
    private static List<Refused> refusedAnyway() {
        List<Refused> all = refusedForSeveral();
        all.add(new Refused("lies(8, 100, 0, 0)", Check.INDEX, w -> nothing(() -> w.lies(8, 100, 0, 0))));
        all.add(new Refused("lies(-1, 5, 5, 5)", Check.INDEX, w -> nothing(() -> w.lies(-1, 5, 5, 5))));
        all.add(new Refused("lies(1, 100, 5, 5)", Check.ARGUMENT, w -> nothing(() -> w.lies(1, 100, 5, 5))));
        all.add(new Refused("lies(1, 5, 100, 5)", Check.ARGUMENT, w -> nothing(() -> w.lies(1, 5, 100, 5))));
        all.add(new Refused("lies(1, 5, 5, 100)", Check.ARGUMENT, w -> nothing(() -> w.lies(1, 5, 5, 100))));
        all.add(new Refused("pass(0)", Check.ARGUMENT, w -> w.pass(0)));
        all.add(new Refused("pass(601)", Check.ARGUMENT, w -> w.pass(601)));
        all.add(new Refused("cycle(30, 4)", Check.INDEX, w -> w.cycle(30, 4)));
        all.add(new Refused("cycle(-1, -1)", Check.INDEX, w -> w.cycle(-1, -1)));
        all.add(new Refused("station(8, 5)", Check.INDEX, w -> w.station(8, 5)));
        all.add(new Refused("station(-1, -1)", Check.INDEX, w -> w.station(-1, -1)));
        all.add(new Refused("rider(10, 5)", Check.INDEX, w -> w.rider(10, 5)));
        all.add(new Refused("rider(-1, -1)", Check.INDEX, w -> w.rider(-1, -1)));
        all.add(new Refused("nearest(8)", Check.INDEX, w -> w.nearest(8)));
        all.add(new Refused("way(0, 8)", Check.INDEX, w -> w.way(0, 8)));
        all.add(new Refused("way(8, 0)", Check.INDEX, w -> w.way(8, 0)));
        return all;
    }

    /** Calls that an object refuses only because it has heard 300; the last three of them it has heard. */
    private static List<Refused> refusedBehind300() {
        List<Refused> all = new ArrayList<>();
        all.add(new Refused("docks(7, 20)", Check.STATE, w -> nothing(() -> w.docks(7, 20))));
        all.add(new Refused("put(29, 1)", Check.STATE, w -> w.put(29, 1)));
        all.add(new Refused("take(0)", Check.STATE, w -> w.take(0)));
        all.add(new Refused("unlocked(0, 9, 100)", Check.STATE, w -> w.unlocked(0, 9, 100)));
        all.add(new Refused("locked(1, 2, 100)", Check.STATE, w -> w.locked(1, 2, 100)));
        all.add(new Refused("faulty(0, 9, 100)", Check.STATE, w -> w.faulty(0, 9, 100)));
        all.add(new Refused("mend(2)", Check.STATE, w -> w.mend(2)));
        all.add(new Refused("price(0)", Check.STATE, w -> nothing(() -> w.price(0))));
        all.add(new Refused("promise(9, 3)", Check.STATE, w -> w.promise(9, 3)));
        all.add(new Refused("unlocked, heard", Check.STATE, w -> w.unlocked(1, 4, 60)));
        all.add(new Refused("locked, heard", Check.STATE, w -> w.locked(0, 2, 70)));
        all.add(new Refused("faulty, heard", Check.STATE, w -> w.faulty(2, 1, 65)));
        return all;
    }

    private static void ask(String where, WheelDocks docks, List<Refused> all) {
        for (Refused one : all) {
            due(one.name + where, one.want, () -> one.call.answer(docks));
        }
    }

    /** A town that has heard 22, at 100: rides that go on and have ended, credit, promises, faults, a van. */
    private static WheelDocks livelyTown() {
        WheelDocks town = new WheelDocks();
        for (int station = 0; station < 5; station++) {
            town.docks(station, 2);
            town.lies(station, 10 * station, 90 - 7 * station, station * station);
        }
        for (int cycle = 0; cycle < 6; cycle++) {
            town.put(cycle, cycle / 2);
        }
        town.unlocked(0, 3, 0);
        town.take(5);
        town.pass(60);
        town.price(7);
        town.unlocked(1, 4, 60);
        town.promise(4, 0);
        town.docks(0, 0);
        town.pass(40);
        town.locked(1, 0, 61);
        town.locked(0, 2, 70);
        town.faulty(2, 1, 65);
        town.faulty(2, 8, 66);
        town.promise(6, 3);
        return town;
    }

    private static WheelDocks fullTown() {
        WheelDocks town = livelyTown();
        for (int heard = 22; heard < 300; heard++) {
            town.price(heard % 100);
        }
        return town;
    }

    private static void firstOfSeveralExceptions() {
        ask(" in a lively town", livelyTown(), refusedAnyway());
        WheelDocks full = fullTown();
        ask(" behind 300", full, refusedAnyway());
        ask(" behind 300", full, refusedBehind300());
    }

    private static void refusedChangesNothing() {
        for (int later : new int[] {0, 1, 14, 15, 200}) {
            WheelDocks apart = livelyTown();
            WheelDocks asked = livelyTown();
            ask(" in a town", asked, refusedAnyway());
            if (later > 0) {
                is("refused calls let no minute pass", apart.pass(later), asked.pass(later));
            }
            CHECK.same("behind refused calls, " + later + " later", Picture.of(apart), Picture.of(asked));
        }
    }

    private static void refusedBehind300ChangesNothing() {
        WheelDocks apart = fullTown();
        WheelDocks asked = fullTown();
        ask(" behind 300", asked, refusedBehind300());
        CHECK.same("cycles behind 300", Picture.ofCycles(apart), Picture.ofCycles(asked));
        asked = fullTown();
        ask(" behind 300", asked, refusedBehind300());
        CHECK.same("riders behind 300", Picture.ofRiders(apart), Picture.ofRiders(asked));
        apart = fullTown();
        asked = fullTown();
        ask(" behind 300", asked, refusedBehind300());
        CHECK.same("stations behind 300", Picture.ofStations(apart), Picture.ofStations(asked));
    }

    private static List<On> kindsOfHeard() {
        List<On> kinds = new ArrayList<>();
        kinds.add(w -> nothing(() -> w.docks(1, 3)));
        kinds.add(w -> w.put(0, 1));
        kinds.add(w -> w.take(0));
        kinds.add(w -> w.unlocked(0, 1, 0));
        kinds.add(w -> w.locked(0, 1, 0));
        kinds.add(w -> w.faulty(0, 1, 0));
        kinds.add(w -> w.mend(0));
        kinds.add(w -> nothing(() -> w.price(1)));
        kinds.add(w -> w.promise(0, 1));
        return kinds;
    }

    private static void eachKindIsThe300th() {
        List<On> kinds = kindsOfHeard();
        for (int kind = 0; kind < kinds.size(); kind++) {
            On call = kinds.get(kind);
            WheelDocks docks = new WheelDocks();
            for (int heard = 0; heard < 299; heard++) {
                docks.price(2);
            }
            String said = Check.said(() -> call.answer(docks));
            CHECK.same("kind " + kind + " as the 300th is refused", "false", "" + said.startsWith("throws."));
            for (int next = 0; next < kinds.size(); next++) {
                On refused = kinds.get(next);
                due("kind " + next + " behind " + kind, Check.STATE, () -> refused.answer(docks));
            }
        }
    }

    private static void eachOfAKindIsOneOf300() {
        With[] kinds = {
            v -> nothing(() -> d.docks(0, 1)), v -> d.put(v % 30, 0), v -> d.take(5),
            v -> d.unlocked(v / 10, v % 10, 0), v -> d.locked(v / 8 % 30, v % 8, v / 240),
            v -> d.faulty(v / 10, v % 10, 0), v -> d.mend(1), v -> nothing(() -> d.price(1)),
            v -> d.promise(1, 0),
        };
        for (int kind = 0; kind < kinds.length; kind++) {
            fresh();
            d.pass(2);
            for (int heard = 0; heard < 300; heard++) {
                int value = heard;
                With call = kinds[kind];
                String said = Check.said(() -> call.answer(value));
                CHECK.same("kind " + kind + ", " + value + " is refused", "false", "" + said.startsWith("throws."));
            }
            due("behind 300 of kind " + kind, Check.STATE, () -> d.mend(2));
        }
    }

    private static void notOneOf300() {
        WheelDocks docks = livelyTown();
        docks.unlocked(4, 4, 100);
        ask(" ahead of 300", docks, refusedAnyway());
        for (int i = 0; i < 30; i++) {
            no("one that was heard", docks.unlocked(4, 4, 100));
            docks.lies(0, i, i, i);
            docks.cycle(i, 0);
        }
        docks.pass(10);
        for (int heard = 23; heard < 300; heard++) {
            docks.price(heard % 100);
        }
        due("the 301st", Check.STATE, () -> docks.mend(0));
        done("lies behind 300", Check.NOTHING, () -> docks.lies(7, 0, 0, 99));
        is("pass behind 300", 111, docks.pass(1));
        is("asked behind 300", WheelDocks.VAN, docks.cycle(5, 0));
    }

    private static void heardAlready() {
        WheelDocks docks = fullTown();
        ask(" at 300", docks, refusedBehind300());
        due("too late behind 300", Check.ARGUMENT, () -> docks.unlocked(0, 3, 0));
        WheelDocks town = livelyTown();
        no("unlocked, heard", town.unlocked(1, 4, 60));
        no("locked, heard", town.locked(0, 2, 70));
        no("locked that did not bite, heard", town.locked(1, 0, 61));
        no("faulty, heard", town.faulty(2, 1, 65));
        due("heard, and too late by now", Check.ARGUMENT, () -> town.unlocked(0, 3, 0));
        CHECK.same("what is heard again changes nothing", Picture.of(livelyTown()), Picture.of(town));
    }

    private static void atMost512Calls() {
        fresh();
        d.docks(0, 2);
        d.put(0, 0);
        for (int call = 3; call <= 300; call++) {
            d.price(call % 2);
        }
        for (int call = 301; call <= 400; call++) {
            d.pass(200);
        }
        for (int call = 401; call <= 511; call++) {
            is("call " + call, 0, d.station(0, 4));
        }
        is("the 512th call", 20000, d.station(7, 4));
    }

    private static void objectsStandAlone() {
        WheelDocks early = new WheelDocks();
        WheelDocks town = livelyTown();
        WheelDocks late = new WheelDocks();
        town.pass(100);
        String fresh = Picture.of(new WheelDocks());
        CHECK.same("an object made ahead of another one's calls", fresh, Picture.of(early));
        CHECK.same("an object made behind them", fresh, Picture.of(late));
    }
}
