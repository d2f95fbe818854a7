/** The section "Rides, bills": the minutes of rides, what they cost, and the minutes in which stations were empty. */
public final class BillsTest extends Cases {
    public static void main(String[] args) {
        minutesToTheEndOrToNow();
        rideOfNoMinute();
        freeMinutesOfEachRide();
        graceAddsToFreeMinutes();
        priceOfEachMinute();
        billBelowNought();
        billOfAllRides();
        lateLockCutsTheBill();
        theLargestBill();
        emptyAtTheEndOfAMinute();
        emptyAheadOfNow();
        emptyWithoutPlaces();
        emptyWhileCyclesAreElsewhere();
        emptyToldLate();
        emptyOfEachStation();
        agreesAlways();
        CHECK.end("BillsTest");
    }

    private static void minutesToTheEndOrToNow() {
        beginRidden();
        is("no minute at first", 0, d.cycle(0, 3));
        for (int now = 1; now <= 4; now++) {
            d.pass(1);
            is("the rider's minutes at " + now, now, d.rider(0, 1));
            is("the cycle's minutes at " + now, now, d.cycle(0, 3));
        }
        d.locked(0, 1, 3);
        is("to its end, not to now", 3, d.rider(0, 1));
        is("of the cycle too", 3, d.cycle(0, 3));
        is("of the other cycle to now", 4, d.cycle(1, 3));
        d.unlocked(0, 0, 4);
        d.pass(2);
        is("with the next ride of his", 5, d.rider(0, 1));
        is("and of it", 5, d.cycle(0, 3));
        d.unlocked(1, 0, 5);
        is("and with that of another cycle", 6, d.rider(0, 1));
        is("of all riders of that cycle", 6, d.cycle(1, 3));
        is("three rides", 3, d.rider(0, 0));
    }

    private static void rideOfNoMinute() {
        begin();
        d.price(99);
        d.unlocked(0, 0, 0);
        d.locked(0, 1, 0);
        is("it was begun", 1, d.rider(0, 0));
        is("it has no minute", 0, d.rider(0, 1));
        is("it costs nothing", 0, d.rider(0, 3));
        d.unlocked(0, 1, 0);
        d.unlocked(0, 2, 0);
        is("handed over at once it was begun", 1, d.rider(1, 0));
        is("it has no minute either", 0, d.rider(1, 1));
        d.pass(600);
        is("also later", 0, d.rider(0, 1) + d.rider(1, 1));
        is("nor does it cost", 0, d.rider(0, 3) + d.rider(1, 3));
        is("who rides on has all", 600, d.rider(2, 1));
    }

    private static void freeMinutesOfEachRide() {
        beginRidden();
        d.pass(29);
        is("29 minutes are free", 0, d.rider(0, 3));
        d.pass(1);
        is("30 minutes are free", 0, d.rider(0, 3));
        d.locked(0, 1, 30);
        d.unlocked(0, 0, 30);
        d.pass(1);
        is("31 minutes cost one", 1, d.rider(1, 3));
        d.locked(1, 1, 31);
        d.pass(29);
        is("an ended ride costs no more", 1, d.rider(1, 3));
        is("the next ride of 30 is free too", 0, d.rider(0, 3));
        d.pass(1);
        is("its 31st minute is not", 1, d.rider(0, 3));
        is("of 61 together", 61, d.rider(0, 1));
    }

    private static void graceAddsToFreeMinutes() {
        for (int locks = 0; locks <= 4; locks++) {
            beginRidden();
            for (int lock = 0; lock < locks; lock++) {
                d.locked(0, 7 - lock, 0);
            }
            d.pass(30 + 10 * locks);
            is("free with " + locks + " locks", 0, d.rider(0, 3));
            d.pass(1);
            is("one minute more with " + locks, 1, d.rider(0, 3));
            d.locked(0, 7, 31);
            is("told late, grace of one more than " + locks, 0, d.rider(0, 3));
            d.pass(10);
            is("behind one more than " + locks, 1, d.rider(0, 3));
            d.locked(0, 1, 41 + 10 * locks);
            is("ended with that", 1, d.rider(0, 3));
            is("all its minutes count", 41 + 10 * locks, d.rider(0, 1));
        }
    }

    private static void priceOfEachMinute() {
        for (int price : new int[] {0, 1, 2, 50, 98, 99}) {
            begin();
            d.price(price);
            d.unlocked(0, 0, 0);
            d.pass(30);
            is("30 minutes at " + price, 0, d.rider(0, 3));
            d.pass(1);
            is("31 minutes at " + price, price, d.rider(0, 3));
            d.pass(69);
            is("100 minutes at " + price, 70 * price, d.rider(0, 3));
            d.locked(0, 1, 99);
            is("ended with 99 at " + price, 69 * price, d.rider(0, 3));
        }
    }

    private static void billBelowNought() {
        beginRidden();
        d.promise(0, 1);
        d.docks(1, 0);
        d.locked(0, 1, 0);
        is("a bill of -100", -100, d.rider(0, 3));
        d.pass(139);
        is("a bill of -1", -1, d.rider(0, 3));
        d.pass(1);
        is("a bill of 0", 0, d.rider(0, 3));
        d.pass(1);
        is("a bill of 1", 1, d.rider(0, 3));
        is("the credit stays", 100, d.rider(0, 2));
    }

    private static void billOfAllRides() {
        begin();
        d.unlocked(0, 0, 0);
        d.price(10);
        d.unlocked(1, 0, 0);
        d.pass(33);
        is("two that go on", 3 + 30, d.rider(0, 3));
        d.locked(0, 1, 32);
        is("one that has ended", 2 + 30, d.rider(0, 3));
        d.price(5);
        d.unlocked(0, 0, 33);
        d.pass(31);
        is("one more", 2 + 340 + 5, d.rider(0, 3));
        is("rides", 3, d.rider(0, 0));
        is("minutes", 32 + 64 + 31, d.rider(0, 1));
        is("of no other one", 0, d.rider(1, 3));
    }

    private static void lateLockCutsTheBill() {
        begin();
        d.price(99);
        d.unlocked(0, 0, 0);
        d.pass(60);
        is("an hour", 30 * 99, d.rider(0, 3));
        d.locked(0, 1, 31);
        is("told late, 31 minutes", 99, d.rider(0, 3));
        d.locked(0, 1, 30);
        is("told later, 30 minutes", 0, d.rider(0, 3));
        is("that makes the first one odd", 1, d.odd());
        d.locked(0, 1, 0);
        is("told last, none", 0, d.rider(0, 1));
    }

    private static void theLargestBill() {
        fresh();
        d.docks(0, 20);
        d.docks(1, 10);
        d.price(99);
        for (int cycle = 0; cycle < 30; cycle++) {
            d.put(cycle, cycle / 20);
            d.unlocked(cycle, 9, 0);
        }
        passTo(0, 20000);
        is("30 rides", 30, d.rider(9, 0));
        is("of 20000 minutes", 600000, d.rider(9, 1));
        is("cost no less for being many", 30 * 99 * 19970, d.rider(9, 3));
        is("of one cycle", 20000, d.cycle(29, 3));
        yes("agrees", d.agrees());
        d.locked(29, 0, 20000);
        is("ended in the last minute", 30 * 99 * 19970, d.rider(9, 3));
    }

    private static void emptyAtTheEndOfAMinute() {
        fresh();
        d.docks(0, 1);
        d.put(0, 0);
        d.take(0);
        d.pass(1);
        is("taken within it", 1, d.station(0, 4));
        d.put(0, 0);
        d.pass(1);
        is("put within it", 1, d.station(0, 4));
        d.take(0);
        d.put(0, 0);
        d.pass(1);
        is("taken and put within it", 1, d.station(0, 4));
        d.take(0);
        d.put(0, 0);
        d.take(0);
        d.pass(1);
        is("taken, put and taken within it", 2, d.station(0, 4));
        d.unlocked(0, 0, 3);
        d.put(0, 0);
        d.unlocked(0, 1, 4);
        d.locked(0, 0, 4);
        d.pass(1);
        is("put, unlocked and locked within it", 2, d.station(0, 4));
    }

    private static void emptyAheadOfNow() {
        begin();
        is("now does not count at 0", 0, d.station(3, 4));
        d.pass(1);
        is("0 counts at 1", 1, d.station(3, 4));
        is("with cycles none counts", 0, d.station(0, 4));
        d.unlocked(0, 0, 1);
        d.unlocked(1, 0, 1);
        is("now does not count at 1", 0, d.station(0, 4));
        d.pass(1);
        is("1 counts at 2", 1, d.station(0, 4));
        d.locked(0, 0, 2);
        is("locked now, 1 still counts", 1, d.station(0, 4));
        d.locked(1, 0, 1);
        is("locked in it, 1 does not count", 0, d.station(0, 4));
    }

    private static void emptyWithoutPlaces() {
        fresh();
        d.docks(0, 1);
        d.put(0, 0);
        d.docks(0, 0);
        d.pass(5);
        is("a cycle without a place is there", 0, d.station(0, 4));
        is("a station without places is empty", 5, d.station(1, 4));
        passTo(5, 20000);
        is("to the last minute", 20000, d.station(1, 4));
        is("it is there still", 0, d.station(0, 4));
    }

    private static void emptyWhileCyclesAreElsewhere() {
        begin();
        d.promise(1, 0);
        d.take(0);
        d.unlocked(1, 2, 0);
        d.pass(3);
        is("in the van and ridden they are not there", 3, d.station(0, 4));
        d.locked(1, 7, 2);
        is("a lock that does not bite docks none", 3, d.station(0, 4));
        d.locked(1, 0, 2);
        is("one of two is enough", 2, d.station(0, 4));
        d.take(1);
        d.pass(1);
        is("none again", 3, d.station(0, 4));
    }

    private static void emptyToldLate() {
        begin();
        d.pass(60);
        is("two are there", 0, d.station(0, 4));
        d.unlocked(0, 0, 0);
        d.unlocked(1, 1, 1);
        is("told of 0 and of 1, none is from 1 on", 59, d.station(0, 4));
        d.locked(0, 0, 59);
        is("to 59", 58, d.station(0, 4));
        d.locked(0, 0, 1);
        is("told of 1 too, one is there", 0, d.station(0, 4));
        is("the other station was empty", 60, d.station(1, 4));
        d.unlocked(0, 0, 58);
        d.locked(0, 1, 58);
        is("away for a minute and on", 2, d.station(0, 4));
        is("there instead", 58, d.station(1, 4));
    }

    private static void emptyOfEachStation() {
        fresh();
        for (int station = 0; station < 8; station++) {
            d.docks(station, 1);
        }
        for (int station = 0; station < 8; station++) {
            d.put(station, station);
            d.pass(1);
        }
        for (int station = 0; station < 8; station++) {
            is("until its cycle came, station " + station, station, d.station(station, 4));
        }
        for (int station = 0; station < 8; station++) {
            d.take(station);
            d.pass(1);
        }
        for (int station = 0; station < 8; station++) {
            is("since its cycle left, station " + station, 8, d.station(station, 4));
        }
    }

    private static void agreesAlways() {
        fresh();
        yes("without rides", d.agrees());
        beginRidden();
        yes("in the minute in which rides begin", d.agrees());
        d.pass(600);
        yes("with rides that go on", d.agrees());
        d.unlocked(0, 1, 580);
        d.unlocked(0, 1, 590);
        yes("with one handed over", d.agrees());
        d.unlocked(0, 5, 579);
        d.unlocked(0, 6, 580);
        yes("with two handed over in one minute", d.agrees());
        d.locked(1, 7, 600);
        yes("with one that did not bite", d.agrees());
        d.locked(0, 1, 560);
        yes("with one that had ended by then", d.agrees());
        is("of the first rider", 560, d.rider(0, 1));
        is("of him who unlocked it then", 1, d.rider(5, 1));
        is("of him who had it for ten", 10, d.rider(6, 1));
        is("of him who rides it, and another one", 600 + 10, d.rider(1, 1));
        is("of the cycle, that was docked for 19", 581, d.cycle(0, 3));
        is("his rides, with one of no minute", 3, d.rider(1, 0));
    }
}
