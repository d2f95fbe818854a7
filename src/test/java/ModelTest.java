import java.util.Random;

/** Seeded runs of at most 512 calls, in towns small and large: each answer is that of the model. */
public final class ModelTest {
    private static final int RUNS = 600;
    private static final int MOST_CALLS = 512;
    private static final String[] TOLD = {
        "unlocked", "unlocked", "unlocked", "locked", "locked", "locked", "locked", "promise", "promise",
        "put", "put", "take", "faulty", "mend", "price", "docks",
    };
    private static final String[] ASKED = {
        "cycle", "cycle", "station", "station", "rider", "rider", "odd", "nearest", "way", "plan", "agrees",
    };

    private final Random random;
    private final Model model = new Model();
    private final WheelDocks docks = new WheelDocks();
    private final int stations;
    private final int laidOut;
    private final int cycles;
    private final int riders;
    private final int mostPlaces;
    private final int mostPassed;
    private final int tellPercent;
    private final int passPercent;

    private ModelTest(int seed) {
        random = new Random(seed);
        stations = 1 + random.nextInt(8);
        // Two of three towns are laid out first; in the third one anything may be the first to be heard.
        laidOut = seed % 3 == 0 ? 0 : 2 * stations;
        cycles = 1 + random.nextInt(random.nextBoolean() ? 4 : 30);
        riders = 1 + random.nextInt(10);
        mostPlaces = 1 + random.nextInt(random.nextBoolean() ? 3 : 20);
        mostPassed = new int[] {1, 3, 9, 20, 60, 600}[random.nextInt(6)];
        tellPercent = 30 + random.nextInt(66);
        passPercent = 2 + random.nextInt(20);
    }

    public static void main(String[] args) {
        Check check = new Check();
        for (int seed = 0; seed < RUNS; seed++) {
            new ModelTest(seed).run(check, "run " + seed);
        }
        check.end("ModelTest");
    }

    private void run(Check check, String run) {
        for (int call = 0; call < MOST_CALLS; call++) {
            String name = call < laidOut ? (call % 2 == 0 ? "docks" : "lies") : name();
            int[] a = arguments(name);
            if (call < laidOut) {
                a[0] = call / 2;
            }
            String want = Check.said(() -> model.call(name, a));
            String got = Check.said(() -> ask(name, a));
            check.same(run + ", call " + call + ", " + name + java.util.Arrays.toString(a), want, got);
            if (!want.equals(got)) {
                return;
            }
        }
    }

    private String name() {
        if (random.nextInt(100) < passPercent) {
            return "pass";
        }
        if (random.nextInt(100) < tellPercent) {
            return TOLD[random.nextInt(TOLD.length)];
        }
        return random.nextInt(40) == 0 ? "lies" : ASKED[random.nextInt(ASKED.length)];
    }

    private int[] arguments(String name) {
        int[] a = likely(name);
        if (a.length > 0 && random.nextInt(50) == 0) {
            int[] wrong = {-1, 8, 10, 21, 30, 100, 601, Integer.MIN_VALUE, Integer.MAX_VALUE};
            a[random.nextInt(a.length)] = wrong[random.nextInt(wrong.length)];
        }
        return a;
    }

    private int[] likely(String name) {
        int cycle = random.nextInt(cycles);
        int station = random.nextInt(stations);
        int rider = random.nextInt(riders);
        int minute = Math.max(0, model.now() - (random.nextBoolean() ? 0 : random.nextInt(63)));
        switch (name) {
            case "lies": return new int[] {station, random.nextInt(100), random.nextInt(100), random.nextInt(12)};
            case "pass": return new int[] {1 + random.nextInt(mostPassed)};
            case "docks": return new int[] {station, random.nextInt(mostPlaces + 1)};
            case "put": return new int[] {cycle, station};
            case "take": return new int[] {cycle};
            case "mend": return new int[] {cycle};
            case "unlocked": return new int[] {cycle, rider, minute};
            case "faulty": return new int[] {cycle, rider, minute};
            case "locked": return new int[] {cycle, station, minute};
            case "price": return new int[] {random.nextInt(100)};
            case "promise": return new int[] {rider, station};
            case "cycle": return new int[] {cycle, random.nextInt(4)};
            case "station": return new int[] {station, random.nextInt(5)};
            case "rider": return new int[] {rider, random.nextInt(5)};
            case "nearest": return new int[] {station};
            case "way": return new int[] {station, random.nextInt(8)};
            default: return new int[0];
        }
    }

    private Object ask(String name, int[] a) {
        switch (name) {
            case "lies": docks.lies(a[0], a[1], a[2], a[3]); return null;
            case "pass": return docks.pass(a[0]);
            case "docks": docks.docks(a[0], a[1]); return null;
            case "put": return docks.put(a[0], a[1]);
            case "take": return docks.take(a[0]);
            case "unlocked": return docks.unlocked(a[0], a[1], a[2]);
            case "locked": return docks.locked(a[0], a[1], a[2]);
            case "faulty": return docks.faulty(a[0], a[1], a[2]);
            case "mend": return docks.mend(a[0]);
            case "price": docks.price(a[0]); return null;
            case "promise": return docks.promise(a[0], a[1]);
            case "cycle": return docks.cycle(a[0], a[1]);
            case "station": return docks.station(a[0], a[1]);
            case "rider": return docks.rider(a[0], a[1]);
            case "nearest": return docks.nearest(a[0]);
            case "way": return docks.way(a[0], a[1]);
            case "odd": return docks.odd();
            case "plan": return docks.plan();
            default: return docks.agrees();
        }
    }
}
