import java.util.Arrays;

/**
 * Bicycles that nobody brings back to the right place: all that is follows from what was heard.
 *
 * <p>What is heard is kept in a story, sorted by minutes. What is stands in the stations, cycles and
 * riders as they are behind the last thing of the story; a thing that comes late begins them anew.
 */
public final class WheelDocks {
    public static final int NONE = -1;
    public static final int STORE = 0, DOCKED = 1, RIDDEN = 2, VAN = 3;

    private static final int STATIONS = 8, CYCLES = 30, RIDERS = 10;
    private static final int MOST_HEARD = 300;
    private static final int LAST_MINUTE = 20000, MOST_PASSED = 600, MOST_LATE = 60;
    private static final int MOST_PLACES = 20, MOST_PRICE = 99, MOST_LYING = 99;
    private static final int FIRST_PRICE = 1, FREE_MINUTES = 30, GRACE_MINUTES = 10;
    private static final int PROMISE_MINUTES = 15, CREDIT = 100, BLOCKING_FAULTS = 2;

    /** The kinds of what is heard. */
    private static final int IS_DOCKS = 0, IS_PUT = 1, IS_TAKE = 2, IS_UNLOCKED = 3, IS_LOCKED = 4;
    private static final int IS_FAULTY = 5, IS_MEND = 6, IS_PRICE = 7, IS_PROMISE = 8;

    private final Story story = new Story();
    private final Ground ground = new Ground();
    private final Stations stations = new Stations();
    private final Cycles cycles = new Cycles();
    private final Riders riders = new Riders();
    private int now = 0;
    private int gone = 0;
    private int oddOnes = 0;
    private int priceThen = FIRST_PRICE;

    public WheelDocks() {
        beginAnew();
    }

    // ---- stations, minutes

    public void lies(int station, int x, int y, int height)
            throws IndexOutOfBoundsException, IllegalArgumentException {
        needStation(station);
        needUpTo(x, MOST_LYING);
        needUpTo(y, MOST_LYING);
        needUpTo(height, MOST_LYING);
        ground.x[station] = x;
        ground.y[station] = y;
        ground.height[station] = height;
    }

    public int pass(int minutes) throws IllegalArgumentException, IllegalStateException {
        if (minutes < 1 || minutes > MOST_PASSED) {
            throw new IllegalArgumentException("minutes out of range");
        }
        if (now + minutes > LAST_MINUTE) {
            throw new IllegalStateException("now would be above its last minute");
        }
        now += minutes;
        return now;
    }

    // ---- what is heard

    public void docks(int station, int places)
            throws IndexOutOfBoundsException, IllegalArgumentException, IllegalStateException {
        needStation(station);
        needUpTo(places, MOST_PLACES);
        needRoom();
        hear(IS_DOCKS, station, places, now);
    }

    public boolean put(int cycle, int station) throws IndexOutOfBoundsException, IllegalStateException {
        needCycle(cycle);
        needStation(station);
        needRoom();
        return hear(IS_PUT, cycle, station, now);
    }

    public boolean take(int cycle) throws IndexOutOfBoundsException, IllegalStateException {
        needCycle(cycle);
        needRoom();
        return hear(IS_TAKE, cycle, NONE, now);
    }

    public boolean unlocked(int cycle, int rider, int minute)
            throws IndexOutOfBoundsException, IllegalArgumentException, IllegalStateException {
        needCycle(cycle);
        needRider(rider);
        needHearableMinute(minute);
        needRoom();
        return hearOnce(IS_UNLOCKED, cycle, rider, minute);
    }

    public boolean locked(int cycle, int station, int minute)
            throws IndexOutOfBoundsException, IllegalArgumentException, IllegalStateException {
        needCycle(cycle);
        needStation(station);
        needHearableMinute(minute);
        needRoom();
        return hearOnce(IS_LOCKED, cycle, station, minute);
    }

    public boolean faulty(int cycle, int rider, int minute)
            throws IndexOutOfBoundsException, IllegalArgumentException, IllegalStateException {
        needCycle(cycle);
        needRider(rider);
        needHearableMinute(minute);
        needRoom();
        return hearOnce(IS_FAULTY, cycle, rider, minute);
    }

    public boolean mend(int cycle) throws IndexOutOfBoundsException, IllegalStateException {
        needCycle(cycle);
        needRoom();
        return hear(IS_MEND, cycle, NONE, now);
    }

    public void price(int price) throws IllegalArgumentException, IllegalStateException {
        needUpTo(price, MOST_PRICE);
        needRoom();
        hear(IS_PRICE, price, NONE, now);
    }

    public boolean promise(int rider, int station) throws IndexOutOfBoundsException, IllegalStateException {
        needRider(rider);
        needStation(station);
        needRoom();
        return hear(IS_PROMISE, rider, station, now);
    }

    // ---- what is asked

    public int cycle(int cycle, int what) throws IndexOutOfBoundsException, IllegalArgumentException {
        needCycle(cycle);
        switch (what) {
            case 0: return cycles.state[cycle];
            case 1: return cycles.holder[cycle];
            case 2: return cycles.isBlocked(cycle) ? 1 : 0;
            case 3: return cycles.ridden[cycle] + cycles.minutesGoingOn(cycle, now);
            default: throw new IllegalArgumentException("no such question of a cycle");
        }
    }

    public int station(int station, int what) throws IndexOutOfBoundsException, IllegalArgumentException {
        needStation(station);
        switch (what) {
            case 0: return stations.places[station];
            case 1: return stations.docked[station];
            case 2: return stations.freePlaces(station);
            case 3: return riders.promisesAt(station, NONE, now);
            case 4: return stations.emptyMinutes(station, now);
            default: throw new IllegalArgumentException("no such question of a station");
        }
    }

    public int rider(int rider, int what) throws IndexOutOfBoundsException, IllegalArgumentException {
        needRider(rider);
        switch (what) {
            case 0: return riders.begun[rider];
            case 1: return minutesOf(rider);
            case 2: return riders.credit[rider];
            case 3: return riders.cost[rider] + costGoingOn(rider) - riders.credit[rider];
            case 4: return riders.promisedStation(rider, now);
            default: throw new IllegalArgumentException("no such question of a rider");
        }
    }

    public int odd() {
        return oddOnes;
    }

    public int nearest(int station) throws IndexOutOfBoundsException {
        needStation(station);
        int found = NONE;
        double least = 0.0;
        for (int other = 0; other < STATIONS; other++) {
            if (other == station || stations.freePlaces(other) == 0) {
                continue;
            }
            double far = ground.wayBetween(station, other);
            if (found == NONE || far < least) {
                found = other;
                least = far;
            }
        }
        return found;
    }

    public int way(int station, int other) throws IndexOutOfBoundsException {
        needStation(station);
        needStation(other);
        // A way is never below 0, so the cast rounds down.
        return (int) (100.0 * ground.wayBetween(station, other));
    }

    public int plan() {
        int from = NONE;
        int to = NONE;
        int mostAbove = 0;
        int mostLacking = 0;
        for (int station = 0; station < STATIONS; station++) {
            int above = stations.docked[station] - stations.places[station] / 2;
            if (above > mostAbove) {
                mostAbove = above;
                from = station;
            }
            if (-above > mostLacking) {
                mostLacking = -above;
                to = station;
            }
        }
        return from == NONE || to == NONE ? NONE : 10 * from + to;
    }

    public boolean agrees() {
        // A cycle has room for one ride alone, and the next begins when that has ended: no two go on at one time.
        int ofCycles = 0;
        for (int cycle = 0; cycle < CYCLES; cycle++) {
            ofCycles += cycles.ridden[cycle] + cycles.minutesGoingOn(cycle, now);
        }
        int ofRiders = 0;
        for (int rider = 0; rider < RIDERS; rider++) {
            ofRiders += minutesOf(rider);
        }
        return ofCycles == ofRiders;
    }

    // ---- what must hold of arguments

    private static void needStation(int station) {
        if (station < 0 || station >= STATIONS) {
            throw new IndexOutOfBoundsException("no such station");
        }
    }

    private static void needCycle(int cycle) {
        if (cycle < 0 || cycle >= CYCLES) {
            throw new IndexOutOfBoundsException("no such cycle");
        }
    }

    private static void needRider(int rider) {
        if (rider < 0 || rider >= RIDERS) {
            throw new IndexOutOfBoundsException("no such rider");
        }
    }

    private static void needUpTo(int value, int most) {
        if (value < 0 || value > most) {
            throw new IllegalArgumentException("a value out of range");
        }
    }

    private void needHearableMinute(int minute) {
        if (minute < Math.max(0, now - MOST_LATE) || minute > now) {
            throw new IllegalArgumentException("minute out of range");
        }
    }

    private void needRoom() {
        if (story.isFull()) {
            throw new IllegalStateException("as much as can be was heard");
        }
    }

    // ---- hearing, and going through what was heard

    private boolean hearOnce(int kind, int cycle, int other, int minute) {
        if (story.tells(kind, cycle, other, minute)) {
            return false;
        }
        hear(kind, cycle, other, minute);
        return true;
    }

    /** Answers whether the last thing of the story is not odd: what is heard with now is that last one. */
    private boolean hear(int kind, int first, int second, int minute) {
        if (story.insert(kind, first, second, minute) < gone) {
            beginAnew();
        }
        boolean fits = true;
        int count = story.count;
        for (int i = gone; i < count; i++) {
            fits = happens(i);
            if (!fits) {
                oddOnes++;
            }
        }
        gone = count;
        return fits;
    }

    private void beginAnew() {
        gone = 0;
        oddOnes = 0;
        priceThen = FIRST_PRICE;
        stations.clear();
        cycles.clear();
        riders.clear();
    }

    /** Lets one thing of the story be so; false if it cannot be, or is a lock that does not bite. */
    private boolean happens(int index) {
        int first = story.first[index];
        int second = story.second[index];
        int minute = story.minute[index];
        stations.countEmptyUntil(minute);
        switch (story.kind[index]) {
            case IS_DOCKS:
                stations.places[first] = second;
                return true;
            case IS_PUT:
                return bePut(first, second);
            case IS_TAKE:
                return beTaken(first);
            case IS_UNLOCKED:
                return beUnlocked(first, second, minute);
            case IS_LOCKED:
                return beLocked(first, second, minute);
            case IS_FAULTY:
                cycles.addFault(first, second);
                return true;
            case IS_MEND:
                return beMended(first);
            case IS_PRICE:
                priceThen = first;
                return true;
            default:
                return bePromised(first, second, minute);
        }
    }

    private boolean bePut(int cycle, int station) {
        int state = cycles.state[cycle];
        if (state != STORE && state != VAN || stations.freePlaces(station) == 0) {
            return false;
        }
        dock(cycle, station);
        return true;
    }

    private boolean beTaken(int cycle) {
        if (cycles.state[cycle] != DOCKED) {
            return false;
        }
        stations.docked[cycles.holder[cycle]]--;
        cycles.state[cycle] = VAN;
        cycles.holder[cycle] = NONE;
        return true;
    }

    private boolean beUnlocked(int cycle, int rider, int minute) {
        int state = cycles.state[cycle];
        int holder = cycles.holder[cycle];
        if (state == DOCKED && !cycles.isBlocked(cycle)) {
            stations.docked[holder]--;
            beginRide(cycle, rider, minute);
            return true;
        }
        if (state == RIDDEN && holder != rider) {
            endRide(cycle, minute);
            beginRide(cycle, rider, minute);
            return true;
        }
        return false;
    }

    private boolean beLocked(int cycle, int station, int minute) {
        if (cycles.state[cycle] != RIDDEN) {
            return false;
        }
        int rider = cycles.holder[cycle];
        boolean bites = stations.freePlaces(station) > riders.promisesAt(station, rider, minute);
        boolean wasPromised = riders.promisedStation(rider, minute) == station;
        if (wasPromised) {
            riders.promisedAt[rider] = NONE;
        }
        if (bites) {
            endRide(cycle, minute);
            dock(cycle, station);
            return true;
        }
        cycles.grace[cycle] += GRACE_MINUTES;
        if (wasPromised) {
            riders.credit[rider] += CREDIT;
        }
        return false;
    }

    private boolean beMended(int cycle) {
        if (cycles.state[cycle] == RIDDEN) {
            return false;
        }
        cycles.faults[cycle] = 0;
        return true;
    }

    private boolean bePromised(int rider, int station, int minute) {
        if (stations.freePlaces(station) <= riders.promisesAt(station, NONE, minute)) {
            return false;
        }
        riders.promisedAt[rider] = station;
        riders.promisedSince[rider] = minute;
        return true;
    }

    private void dock(int cycle, int station) {
        cycles.state[cycle] = DOCKED;
        cycles.holder[cycle] = station;
        stations.docked[station]++;
    }

    private void beginRide(int cycle, int rider, int minute) {
        cycles.state[cycle] = RIDDEN;
        cycles.holder[cycle] = rider;
        cycles.begin[cycle] = minute;
        cycles.ridePrice[cycle] = priceThen;
        cycles.grace[cycle] = 0;
        riders.begun[rider]++;
    }

    private void endRide(int cycle, int minute) {
        int rider = cycles.holder[cycle];
        int minutes = cycles.minutesGoingOn(cycle, minute);
        cycles.ridden[cycle] += minutes;
        riders.minutes[rider] += minutes;
        riders.cost[rider] += cycles.rideCost(cycle, minutes);
    }

    private int minutesOf(int rider) {
        int minutes = riders.minutes[rider];
        for (int cycle = 0; cycle < CYCLES; cycle++) {
            if (cycles.isRiddenBy(cycle, rider)) {
                minutes += cycles.minutesGoingOn(cycle, now);
            }
        }
        return minutes;
    }

    private int costGoingOn(int rider) {
        int cost = 0;
        for (int cycle = 0; cycle < CYCLES; cycle++) {
            if (cycles.isRiddenBy(cycle, rider)) {
                cost += cycles.rideCost(cycle, cycles.minutesGoingOn(cycle, now));
            }
        }
        return cost;
    }

    /** All that was heard, by minutes, of one minute as it was heard. */
    private static final class Story {
        final int[] kind = new int[MOST_HEARD];
        final int[] first = new int[MOST_HEARD];
        final int[] second = new int[MOST_HEARD];
        final int[] minute = new int[MOST_HEARD];
        int count = 0;

        boolean isFull() {
            return count >= MOST_HEARD;
        }

        boolean tells(int askedKind, int askedFirst, int askedSecond, int askedMinute) {
            for (int i = 0; i < count; i++) {
                if (kind[i] == askedKind && first[i] == askedFirst
                        && second[i] == askedSecond && minute[i] == askedMinute) {
                    return true;
                }
            }
            return false;
        }

        /** Answers the index at which the new thing stands; a full story stays as it is. */
        int insert(int newKind, int newFirst, int newSecond, int newMinute) {
            if (isFull()) {
                return count;
            }
            int index = count;
            while (index > 0 && minute[index - 1] > newMinute) {
                index--;
            }
            int behind = count - index;
            System.arraycopy(kind, index, kind, index + 1, behind);
            System.arraycopy(first, index, first, index + 1, behind);
            System.arraycopy(second, index, second, index + 1, behind);
            System.arraycopy(minute, index, minute, index + 1, behind);
            kind[index] = newKind;
            first[index] = newFirst;
            second[index] = newSecond;
            minute[index] = newMinute;
            count++;
            return index;
        }
    }

    /** Where the stations lie. */
    private static final class Ground {
        /** Ample for the squares of two differences up to 99 together: eight pairs of bits. */
        private static final int HIGHEST_PAIR = 14;
        private static final long FULL_ROOT = 1L << 52;

        final int[] x = new int[STATIONS];
        final int[] y = new int[STATIONS];
        final int[] height = new int[STATIONS];

        double wayBetween(int station, int other) {
            int dx = x[other] - x[station];
            int dy = y[other] - y[station];
            int climb = Math.max(0, height[other] - height[station]);
            return nearestRoot(dx * dx + dy * dy) + 2.0 * (double) climb;
        }

        /**
         * The root's bits one by one, from two bits of the square each, until 53 stand: in whole
         * numbers no rounding goes before the last one, so that the nearest double comes out.
         */
        private static double nearestRoot(int square) {
            if (square <= 0) {
                return 0.0;
            }
            long root = 0;
            long rest = 0;
            double scale = 1.0;
            for (int shift = HIGHEST_PAIR; root < FULL_ROOT && shift > -128; shift -= 2) {
                long pair = shift >= 0 ? (square >> shift) & 3 : 0;
                long trial = 4 * root + 1;
                rest = 4 * rest + pair;
                root = 2 * root;
                if (rest >= trial) {
                    rest -= trial;
                    root++;
                }
                if (shift < 0) {
                    scale = 2.0 * scale;
                }
            }
            // A rest above the root means: above the root and a half. A half itself cannot be.
            if (rest > root) {
                root++;
            }
            return (double) root / scale;
        }
    }

    /** What the stations are, behind what was gone through. */
    private static final class Stations {
        final int[] places = new int[STATIONS];
        final int[] docked = new int[STATIONS];
        final int[] empty = new int[STATIONS];
        int countedUntil = 0;

        void clear() {
            Arrays.fill(places, 0);
            Arrays.fill(docked, 0);
            Arrays.fill(empty, 0);
            countedUntil = 0;
        }

        int freePlaces(int station) {
            return Math.max(0, places[station] - docked[station]);
        }

        /** Called ahead of what a minute brings: a minute counts by what stands at its end. */
        void countEmptyUntil(int minute) {
            for (int station = 0; station < STATIONS; station++) {
                empty[station] = emptyMinutes(station, minute);
            }
            countedUntil = minute;
        }

        int emptyMinutes(int station, int minute) {
            return docked[station] == 0 ? empty[station] + minute - countedUntil : empty[station];
        }
    }

    /** What the cycles are, behind what was gone through, each with the ride that goes on, if one does. */
    private static final class Cycles {
        final int[] state = new int[CYCLES];
        /** The station of one that is DOCKED, the rider of one that is RIDDEN, otherwise NONE. */
        final int[] holder = new int[CYCLES];
        /** The riders by whom there is a fault, a bit each. */
        final int[] faults = new int[CYCLES];
        final int[] ridden = new int[CYCLES];
        final int[] begin = new int[CYCLES];
        final int[] ridePrice = new int[CYCLES];
        final int[] grace = new int[CYCLES];

        void clear() {
            Arrays.fill(state, STORE);
            Arrays.fill(holder, NONE);
            Arrays.fill(faults, 0);
            Arrays.fill(ridden, 0);
            Arrays.fill(begin, 0);
            Arrays.fill(ridePrice, 0);
            Arrays.fill(grace, 0);
        }

        boolean isBlocked(int cycle) {
            return Integer.bitCount(faults[cycle]) >= BLOCKING_FAULTS;
        }

        boolean isRiddenBy(int cycle, int rider) {
            return state[cycle] == RIDDEN && holder[cycle] == rider;
        }

        void addFault(int cycle, int rider) {
            faults[cycle] = faults[cycle] | 1 << rider;
        }

        int minutesGoingOn(int cycle, int minute) {
            return state[cycle] == RIDDEN ? minute - begin[cycle] : 0;
        }

        int rideCost(int cycle, int minutes) {
            return ridePrice[cycle] * Math.max(0, minutes - FREE_MINUTES - grace[cycle]);
        }
    }

    /** What the riders are, behind what was gone through; minutes and cost are those of ended rides. */
    private static final class Riders {
        final int[] begun = new int[RIDERS];
        final int[] minutes = new int[RIDERS];
        final int[] cost = new int[RIDERS];
        final int[] credit = new int[RIDERS];
        final int[] promisedAt = new int[RIDERS];
        final int[] promisedSince = new int[RIDERS];

        void clear() {
            Arrays.fill(begun, 0);
            Arrays.fill(minutes, 0);
            Arrays.fill(cost, 0);
            Arrays.fill(credit, 0);
            Arrays.fill(promisedAt, NONE);
            Arrays.fill(promisedSince, 0);
        }

        int promisedStation(int rider, int minute) {
            return minute - promisedSince[rider] < PROMISE_MINUTES ? promisedAt[rider] : NONE;
        }

        /** How many are promised there, one rider (or NONE) left out. */
        int promisesAt(int station, int leftOut, int minute) {
            int promises = 0;
            for (int rider = 0; rider < RIDERS; rider++) {
                if (rider != leftOut && promisedStation(rider, minute) == station) {
                    promises++;
                }
            }
            return promises;
        }
    }
}
