import java.util.ArrayList;
import java.util.List;

/**
 * The document once more, written as plainly as it can be and unlike WheelDocks: after each change all
 * minutes are gone through from 0, rides are kept as rows, and all sums are made from the rows.
 */
final class Model {
    private record Heard(String kind, int a, int b, int minute, int order) { }

    private static final class Ride {
        int cycle;
        int rider;
        int begin;
        int end = -1;
        int price;
        int grace;
    }

    private final List<Heard> all = new ArrayList<>();
    private final int[][] place = new int[8][3];
    private int now = 0;

    private boolean fresh = false;
    private int[] places;
    private int[] empty;
    private final boolean[] bare = new boolean[8];
    private String[] cycles;
    private List<List<Integer>> faults;
    private List<Ride> rides;
    private int[] credit;
    private int[] promised;
    private int[] since;
    private int priceNow;
    private int odd;
    private boolean lastOdd;

    private static void index(boolean fine) {
        if (!fine) {
            throw new IndexOutOfBoundsException();
        }
    }

    private static void argument(boolean fine) {
        if (!fine) {
            throw new IllegalArgumentException();
        }
    }

    private static void state(boolean fine) {
        if (!fine) {
            throw new IllegalStateException();
        }
    }

    private static boolean in(int value, int from, int to) {
        return from <= value && value <= to;
    }

    /** Answers a call by its name; null stands for no answer. */
    Object call(String name, int[] a) {
        switch (name) {
            case "lies": lies(a[0], a[1], a[2], a[3]); return null;
            case "pass": return pass(a[0]);
            case "docks": docks(a[0], a[1]); return null;
            case "put": return atNow(name, a[0], 30, a[1], 8);
            case "take": return atNow(name, a[0], 30, 0, 1);
            case "mend": return atNow(name, a[0], 30, 0, 1);
            case "promise": return atNow(name, a[0], 10, a[1], 8);
            case "unlocked": return told(name, a[0], a[1], 10, a[2]);
            case "locked": return told(name, a[0], a[1], 8, a[2]);
            case "faulty": return told(name, a[0], a[1], 10, a[2]);
            case "price": price(a[0]); return null;
            default: return asked(name, a);
        }
    }

    private Object asked(String name, int[] a) {
        switch (name) {
            case "cycle": return cycle(a[0], a[1]);
            case "station": return station(a[0], a[1]);
            case "rider": return rider(a[0], a[1]);
            case "nearest": return nearest(a[0]);
            case "way": return way(a[0], a[1]);
            case "odd": goThrough(); return odd;
            case "plan": return plan();
            case "agrees": return agrees();
            default: throw new IllegalStateException("no call " + name);
        }
    }

    int now() {
        return now;
    }

    private void lies(int station, int x, int y, int height) {
        index(in(station, 0, 7));
        argument(in(x, 0, 99) && in(y, 0, 99) && in(height, 0, 99));
        place[station] = new int[] {x, y, height};
    }

    private int pass(int minutes) {
        argument(in(minutes, 1, 600));
        state(now + minutes <= 20000);
        now += minutes;
        fresh = false;
        return now;
    }

    private void docks(int station, int many) {
        index(in(station, 0, 7));
        argument(in(many, 0, 20));
        state(all.size() < 300);
        add("docks", station, many, now);
    }

    private void price(int price) {
        argument(in(price, 0, 99));
        state(all.size() < 300);
        add("price", price, 0, now);
    }

    private boolean atNow(String kind, int a, int bound, int b, int otherBound) {
        index(in(a, 0, bound - 1) && in(b, 0, otherBound - 1));
        state(all.size() < 300);
        add(kind, a, b, now);
        goThrough();
        return !lastOdd;
    }

    private boolean told(String kind, int a, int b, int otherBound, int minute) {
        index(in(a, 0, 29) && in(b, 0, otherBound - 1));
        argument(in(minute, 0, now) && now - minute <= 60);
        state(all.size() < 300);
        for (Heard one : all) {
            if (one.kind.equals(kind) && one.a == a && one.b == b && one.minute == minute) {
                return false;
            }
        }
        add(kind, a, b, minute);
        return true;
    }

    private void add(String kind, int a, int b, int minute) {
        all.add(new Heard(kind, a, b, minute, all.size()));
        fresh = false;
    }

    private void goThrough() {
        if (fresh) {
            return;
        }
        fresh = true;
        places = new int[8];
        empty = new int[8];
        cycles = new String[30];
        faults = new ArrayList<>();
        for (int c = 0; c < 30; c++) {
            cycles[c] = "store";
            faults.add(new ArrayList<>());
        }
        rides = new ArrayList<>();
        credit = new int[10];
        promised = new int[] {-1, -1, -1, -1, -1, -1, -1, -1, -1, -1};
        since = new int[10];
        priceNow = 1;
        odd = 0;
        List<List<Heard>> byMinute = new ArrayList<>();
        for (int minute = 0; minute <= now; minute++) {
            byMinute.add(null);
        }
        for (Heard one : all) {
            if (byMinute.get(one.minute) == null) {
                byMinute.set(one.minute, new ArrayList<>());
            }
            byMinute.get(one.minute).add(one);
        }
        for (int minute = 0; minute <= now; minute++) {
            goThroughMinute(byMinute.get(minute), minute);
        }
    }

    private void goThroughMinute(List<Heard> heard, int minute) {
        for (int r = 0; r < 10; r++) {
            if (promised[r] >= 0 && minute == since[r] + 15) {
                promised[r] = -1;
            }
        }
        if (heard != null) {
            for (Heard one : heard) {
                boolean so = happens(one);
                odd += so ? 0 : 1;
                if (one.order == all.size() - 1) {
                    lastOdd = !so;
                }
            }
        }
        for (int s = 0; s < 8; s++) {
            if (heard != null || minute == 0) {
                bare[s] = there(s) == 0;
            }
            empty[s] += bare[s] && minute < now ? 1 : 0;
        }
    }

    private boolean happens(Heard one) {
        String was = one.kind.equals("docks") || one.kind.equals("price") || one.kind.equals("promise")
                ? "" : cycles[one.a];
        switch (one.kind) {
            case "docks":
                places[one.a] = one.b;
                return true;
            case "price":
                priceNow = one.a;
                return true;
            case "put":
                if ((was.equals("store") || was.equals("van")) && free(one.b) > 0) {
                    cycles[one.a] = "at" + one.b;
                    return true;
                }
                return false;
            case "take":
                if (was.startsWith("at")) {
                    cycles[one.a] = "van";
                    return true;
                }
                return false;
            case "mend":
                if (!was.startsWith("by")) {
                    faults.get(one.a).clear();
                    return true;
                }
                return false;
            case "faulty":
                if (!faults.get(one.a).contains(one.b)) {
                    faults.get(one.a).add(one.b);
                }
                return true;
            case "unlocked":
                return unlock(one, was);
            case "locked":
                return lock(one, was);
            default:
                return promise(one);
        }
    }

    private boolean unlock(Heard one, String was) {
        boolean first = was.startsWith("at") && faults.get(one.a).size() < 2;
        boolean second = was.startsWith("by") && !was.equals("by" + one.b);
        if (!first && !second) {
            return false;
        }
        if (second) {
            rideOf(one.a).end = one.minute;
        }
        Ride ride = new Ride();
        ride.cycle = one.a;
        ride.rider = one.b;
        ride.begin = one.minute;
        ride.price = priceNow;
        rides.add(ride);
        cycles[one.a] = "by" + one.b;
        return true;
    }

    private boolean lock(Heard one, String was) {
        if (!was.startsWith("by")) {
            return false;
        }
        Ride ride = rideOf(one.a);
        int others = 0;
        for (int r = 0; r < 10; r++) {
            others += r != ride.rider && promised[r] == one.b ? 1 : 0;
        }
        boolean his = promised[ride.rider] == one.b;
        if (his) {
            promised[ride.rider] = -1;
        }
        if (free(one.b) > others) {
            ride.end = one.minute;
            cycles[one.a] = "at" + one.b;
            return true;
        }
        ride.grace += 10;
        credit[ride.rider] += his ? 100 : 0;
        return false;
    }

    private boolean promise(Heard one) {
        int there = 0;
        for (int r = 0; r < 10; r++) {
            there += promised[r] == one.b ? 1 : 0;
        }
        if (free(one.b) <= there) {
            return false;
        }
        promised[one.a] = one.b;
        since[one.a] = one.minute;
        return true;
    }

    private Ride rideOf(int cycle) {
        Ride found = null;
        for (Ride ride : rides) {
            if (ride.cycle == cycle && ride.end < 0) {
                found = ride;
            }
        }
        return found;
    }

    private int there(int station) {
        int count = 0;
        for (String cycle : cycles) {
            count += cycle.equals("at" + station) ? 1 : 0;
        }
        return count;
    }

    private int free(int station) {
        return Math.max(0, places[station] - there(station));
    }

    private int minutes(Ride ride) {
        return (ride.end < 0 ? now : ride.end) - ride.begin;
    }

    private int cycle(int cycle, int what) {
        index(in(cycle, 0, 29));
        argument(in(what, 0, 3));
        goThrough();
        String is = cycles[cycle];
        if (what == 0) {
            return is.equals("store") ? 0 : is.startsWith("at") ? 1 : is.startsWith("by") ? 2 : 3;
        }
        if (what == 1) {
            return is.startsWith("at") || is.startsWith("by") ? Integer.parseInt(is.substring(2)) : -1;
        }
        if (what == 2) {
            return faults.get(cycle).size() >= 2 ? 1 : 0;
        }
        return rides.stream().filter(r -> r.cycle == cycle).mapToInt(this::minutes).sum();
    }

    private int station(int station, int what) {
        index(in(station, 0, 7));
        argument(in(what, 0, 4));
        goThrough();
        int there = 0;
        for (int r = 0; r < 10; r++) {
            there += promised[r] == station ? 1 : 0;
        }
        return new int[] {places[station], there(station), free(station), there, empty[station]}[what];
    }

    private int rider(int rider, int what) {
        index(in(rider, 0, 9));
        argument(in(what, 0, 4));
        goThrough();
        int begun = 0;
        int minutes = 0;
        int cost = 0;
        for (Ride ride : rides) {
            if (ride.rider == rider) {
                begun++;
                minutes += minutes(ride);
                cost += ride.price * Math.max(0, minutes(ride) - 30 - ride.grace);
            }
        }
        return new int[] {begun, minutes, credit[rider], cost - credit[rider], promised[rider]}[what];
    }

    private double far(int from, int to) {
        int dx = place[to][0] - place[from][0];
        int dy = place[to][1] - place[from][1];
        int up = place[to][2] - place[from][2];
        return Math.sqrt(dx * dx + dy * dy) + (up > 0 ? 2.0 * up : 0);
    }

    private int nearest(int station) {
        index(in(station, 0, 7));
        goThrough();
        int best = -1;
        for (int s = 7; s >= 0; s--) {
            if (s != station && free(s) > 0 && (best < 0 || far(station, s) <= far(station, best))) {
                best = s;
            }
        }
        return best;
    }

    private int way(int station, int other) {
        index(in(station, 0, 7) && in(other, 0, 7));
        return (int) Math.floor(100 * far(station, other));
    }

    private int plan() {
        goThrough();
        int from = -1;
        int to = -1;
        for (int s = 7; s >= 0; s--) {
            if (over(s) > 0 && (from < 0 || over(s) >= over(from))) {
                from = s;
            }
            if (over(s) < 0 && (to < 0 || over(s) <= over(to))) {
                to = s;
            }
        }
        return from < 0 || to < 0 ? -1 : 10 * from + to;
    }

    private int over(int station) {
        return there(station) - places[station] / 2;
    }

    private boolean agrees() {
        goThrough();
        int ofCycles = 0;
        for (int c = 0; c < 30; c++) {
            ofCycles += cycle(c, 3);
        }
        int ofRiders = 0;
        for (int r = 0; r < 10; r++) {
            ofRiders += rider(r, 1);
        }
        boolean apart = true;
        for (Ride one : rides) {
            for (Ride other : rides) {
                if (one != other && one.cycle == other.cycle && one.begin < (other.end < 0 ? now : other.end)
                        && other.begin < (one.end < 0 ? now : one.end)) {
                    apart = false;
                }
            }
        }
        return apart && ofCycles == ofRiders;
    }
}
