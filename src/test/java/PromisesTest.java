/** The document's promises 1 to 20, one by one: ordinary calls, the edges that it names, and wrong ones. */
public final class PromisesTest extends Cases {
    public static void main(String[] args) {
        aNewObject();
        lies();
        pass();
        docks();
        put();
        take();
        unlocked();
        minutesThatAreHeard();
        locked();
        locksOfOthersPromises();
        faulty();
        mend();
        price();
        bills();
        promise();
        promisesThatEnd();
        cycle();
        station();
        emptyMinutes();
        rider();
        odd();
        nearest();
        way();
        plan();
        agrees();
        whatComesLate();
        threeHundred();
        firstException();
        CHECK.end("PromisesTest");
    }

    private static void aNewObject() {
        d = new WheelDocks();
        for (int c = 0; c < 30; c++) {
            is("new cycle is in the store", WheelDocks.STORE, d.cycle(c, 0));
            is("new cycle is nowhere", WheelDocks.NONE, d.cycle(c, 1));
            is("new cycle is not blocked", 0, d.cycle(c, 2));
            is("new cycle was not ridden", 0, d.cycle(c, 3));
        }
        for (int s = 0; s < 8; s++) {
            for (int what = 0; what < 5; what++) {
                is("new station, " + what, 0, d.station(s, what));
            }
            is("new nearest", WheelDocks.NONE, d.nearest(s));
            is("new way", 0, d.way(s, 7 - s));
        }
        for (int r = 0; r < 10; r++) {
            for (int what = 0; what < 5; what++) {
                is("new rider, " + what, what == 4 ? WheelDocks.NONE : 0, d.rider(r, what));
            }
        }
        is("new odd", 0, d.odd());
        is("new plan", WheelDocks.NONE, d.plan());
        yes("new agrees", d.agrees());
        is("now is 0 at first", 1, d.pass(1));
    }

    private static void lies() {
        d = new WheelDocks();
        d.lies(7, 99, 0, 0);
        is("x to 99", 9900, d.way(0, 7));
        d.lies(7, 0, 99, 0);
        is("told anew", 9900, d.way(7, 0));
        d.lies(7, 0, 0, 99);
        is("height to 99", 19800, d.way(0, 7));
        done("station -1", Check.INDEX, () -> d.lies(-1, 0, 0, 0));
        done("station 8", Check.INDEX, () -> d.lies(8, -1, 0, 0));
        done("x -1", Check.ARGUMENT, () -> d.lies(0, -1, 0, 0));
        done("x 100", Check.ARGUMENT, () -> d.lies(0, 100, 0, 0));
        done("y -1", Check.ARGUMENT, () -> d.lies(0, 1, -1, 0));
        done("y 100", Check.ARGUMENT, () -> d.lies(0, 1, 100, 0));
        done("height -1", Check.ARGUMENT, () -> d.lies(0, 1, 1, -1));
        done("height 100", Check.ARGUMENT, () -> d.lies(0, 1, 1, 100));
        done("far out", Check.ARGUMENT, () -> d.lies(0, LOW, HIGH, HIGH));
        is("wrong lies change nothing", 19800, d.way(0, 7));
        is("lies is not odd", 0, d.odd());
    }

    private static void pass() {
        d = new WheelDocks();
        due("pass 0", Check.ARGUMENT, () -> d.pass(0));
        due("pass -1", Check.ARGUMENT, () -> d.pass(-1));
        due("pass 601", Check.ARGUMENT, () -> d.pass(601));
        due("pass low", Check.ARGUMENT, () -> d.pass(LOW));
        due("pass high", Check.ARGUMENT, () -> d.pass(HIGH));
        is("pass 1", 1, d.pass(1));
        for (int i = 1; i <= 33; i++) {
            is("pass 600", 1 + 600 * i, d.pass(600));
        }
        due("pass to 20001", Check.STATE, () -> d.pass(200));
        due("wrong and too far", Check.ARGUMENT, () -> d.pass(601));
        is("pass to 20000", 20000, d.pass(199));
        due("pass behind the end", Check.STATE, () -> d.pass(1));
        is("empty to the end", 20000, d.station(0, 4));
        yes("heard at the end", d.faulty(0, 0, 20000));
        due("ahead of that", Check.ARGUMENT, () -> d.faulty(0, 0, 20001));
    }

    private static void docks() {
        d = new WheelDocks();
        d.docks(7, 20);
        is("20 places", 20, d.station(7, 0));
        for (int c = 0; c < 20; c++) {
            yes("put to 20 places", d.put(c, 7));
        }
        no("put to none", d.put(20, 7));
        d.docks(7, 3);
        is("3 places", 3, d.station(7, 0));
        is("cycles stay", 20, d.station(7, 1));
        is("free places are 0 at least", 0, d.station(7, 2));
        is("cycle stays", 7, d.cycle(19, 1));
        d.docks(7, 0);
        is("0 places", 0, d.station(7, 0));
        is("docks is never odd", 1, d.odd());
        done("station -1", Check.INDEX, () -> d.docks(-1, 1));
        done("station 8", Check.INDEX, () -> d.docks(8, 21));
        done("places -1", Check.ARGUMENT, () -> d.docks(7, -1));
        done("places 21", Check.ARGUMENT, () -> d.docks(7, 21));
        is("wrong docks change nothing", 0, d.station(7, 0));
        begin();
        d.promise(4, 1);
        d.docks(1, 0);
        is("a promise stays without a place", 1, d.rider(4, 4));
        is("a promise counts without a place", 1, d.station(1, 3));
    }

    private static void put() {
        begin();
        is("put is docked", WheelDocks.DOCKED, d.cycle(1, 0));
        is("put is at the station", 0, d.cycle(1, 1));
        no("put where it is full", d.put(2, 0));
        is("not put", WheelDocks.STORE, d.cycle(2, 0));
        no("put of a docked one", d.put(0, 1));
        is("put of a docked one changes nothing", 0, d.cycle(0, 1));
        yes("put from the store", d.put(2, 1));
        d.unlocked(0, 0, 0);
        no("put of a ridden one", d.put(0, 1));
        is("put of a ridden one changes nothing", WheelDocks.RIDDEN, d.cycle(0, 0));
        d.take(2);
        yes("put from the van", d.put(2, 3));
        d.promise(1, 2);
        d.promise(2, 2);
        yes("put at a promised place", d.put(3, 2));
        yes("put at the other promised place", d.put(4, 2));
        no("put without a place", d.put(5, 2));
        no("put at a station of none", d.put(5, 4));
        is("odd puts", 5, d.odd());
        due("cycle -1", Check.INDEX, () -> d.put(-1, 0));
        due("cycle 30", Check.INDEX, () -> d.put(30, 0));
        due("station -1", Check.INDEX, () -> d.put(0, -1));
        due("station 8", Check.INDEX, () -> d.put(0, 8));
        yes("cycle 29", d.put(29, 3));
        is("wrong puts are not odd", 5, d.odd());
    }

    private static void take() {
        begin();
        yes("take", d.take(1));
        is("taken is in the van", WheelDocks.VAN, d.cycle(1, 0));
        is("taken is at none", WheelDocks.NONE, d.cycle(1, 1));
        is("taken leaves a place", 1, d.station(0, 2));
        no("take from the van", d.take(1));
        no("take from the store", d.take(2));
        d.unlocked(0, 0, 0);
        no("take of a ridden one", d.take(0));
        is("still ridden", WheelDocks.RIDDEN, d.cycle(0, 0));
        is("odd takes", 3, d.odd());
        d.put(3, 1);
        d.faulty(3, 1, 0);
        d.faulty(3, 2, 0);
        yes("take of a blocked one", d.take(3));
        is("blocked in the van", 1, d.cycle(3, 2));
        due("cycle -1", Check.INDEX, () -> d.take(-1));
        due("cycle 30", Check.INDEX, () -> d.take(30));
    }

    private static void unlocked() {
        begin();
        yes("unlocked", d.unlocked(0, 3, 0));
        is("is ridden", WheelDocks.RIDDEN, d.cycle(0, 0));
        is("is ridden by", 3, d.cycle(0, 1));
        is("a ride began", 1, d.rider(3, 0));
        is("it left the station", 1, d.station(0, 1));
        no("the same one again", d.unlocked(0, 3, 0));
        is("the same one is not odd", 0, d.odd());
        d.pass(7);
        yes("by the same rider later", d.unlocked(0, 3, 7));
        is("by the same rider is odd", 1, d.odd());
        is("no ride more", 1, d.rider(3, 0));
        is("the ride goes on", 7, d.rider(3, 1));
        yes("by another one", d.unlocked(0, 4, 7));
        is("it is his", 4, d.cycle(0, 1));
        is("his ride began", 1, d.rider(4, 0));
        d.pass(2);
        is("the first one's minutes", 7, d.rider(3, 1));
        is("the other one's minutes", 2, d.rider(4, 1));
        is("both", 9, d.cycle(0, 3));
        is("another one is not odd", 1, d.odd());
        yes("in the store", d.unlocked(5, 1, 9));
        is("in the store it is odd", 2, d.odd());
        is("in the store still", WheelDocks.STORE, d.cycle(5, 0));
        yes("a second one of one rider", d.unlocked(1, 4, 9));
        is("he rides both", 2, d.rider(4, 0));
        d.pass(3);
        is("minutes of both rides", 8, d.rider(4, 1));
        d.faulty(0, 1, 9);
        d.faulty(0, 2, 9);
        yes("a blocked one, ridden, by another one", d.unlocked(0, 9, 12));
        is("is his", 9, d.cycle(0, 1));
        due("cycle -1", Check.INDEX, () -> d.unlocked(-1, 0, 9));
        due("cycle 30", Check.INDEX, () -> d.unlocked(30, 0, 9));
        due("rider -1", Check.INDEX, () -> d.unlocked(0, -1, 9));
        due("rider 10", Check.INDEX, () -> d.unlocked(0, 10, 9));
    }

    private static void minutesThatAreHeard() {
        begin();
        due("unlocked ahead", Check.ARGUMENT, () -> d.unlocked(0, 0, 1));
        due("locked ahead", Check.ARGUMENT, () -> d.locked(0, 0, 1));
        due("faulty ahead", Check.ARGUMENT, () -> d.faulty(0, 0, 1));
        due("unlocked below 0", Check.ARGUMENT, () -> d.unlocked(0, 0, -1));
        due("locked below 0", Check.ARGUMENT, () -> d.locked(0, 0, -1));
        due("faulty below 0", Check.ARGUMENT, () -> d.faulty(0, 0, -1));
        d.pass(60);
        due("below 0 at 60", Check.ARGUMENT, () -> d.unlocked(0, 0, -1));
        yes("0 at 60", d.unlocked(0, 0, 0));
        d.pass(41);
        due("unlocked too late", Check.ARGUMENT, () -> d.unlocked(0, 0, 40));
        due("locked too late", Check.ARGUMENT, () -> d.locked(0, 0, 40));
        due("faulty too late", Check.ARGUMENT, () -> d.faulty(0, 0, 40));
        due("one that was heard, too late", Check.ARGUMENT, () -> d.unlocked(0, 0, 0));
        yes("unlocked just in time", d.unlocked(0, 0, 41));
        yes("locked just in time", d.locked(0, 0, 41));
        yes("faulty just in time", d.faulty(0, 0, 41));
        no("unlocked twice", d.unlocked(0, 0, 41));
        no("locked twice", d.locked(0, 0, 41));
        no("faulty twice", d.faulty(0, 0, 41));
        yes("now", d.locked(0, 0, 101));
        due("minute low", Check.ARGUMENT, () -> d.unlocked(0, 0, LOW));
        due("minute high", Check.ARGUMENT, () -> d.locked(0, 0, HIGH));
        yes("of another cycle", d.faulty(1, 0, 41));
        yes("of another rider", d.faulty(0, 1, 41));
        yes("of another minute", d.faulty(0, 0, 42));
        yes("at another station", d.locked(0, 1, 41));
    }

    private static void locked() {
        begin();
        d.unlocked(0, 0, 0);
        d.pass(50);
        yes("locked", d.locked(0, 1, 40));
        is("is docked", WheelDocks.DOCKED, d.cycle(0, 0));
        is("is there", 1, d.cycle(0, 1));
        is("counts there", 1, d.station(1, 1));
        is("the ride has ended", 40, d.rider(0, 1));
        is("and costs no more", 10, d.rider(0, 3));
        no("the same one", d.locked(0, 1, 40));
        is("not odd", 0, d.odd());
        yes("locked, docked", d.locked(0, 2, 50));
        is("is odd", 1, d.odd());
        is("is where it was", 1, d.cycle(0, 1));
        yes("locked, in the store", d.locked(9, 2, 50));
        is("is odd too", 2, d.odd());
        d.unlocked(0, 5, 50);
        yes("locked without a place", d.locked(0, 7, 50));
        is("the ride goes on", WheelDocks.RIDDEN, d.cycle(0, 0));
        is("is odd as well", 3, d.odd());
        is("no credit without a promise", 0, d.rider(5, 2));
        d.pass(45);
        is("10 minutes of grace", 5, d.rider(5, 3));
        d.locked(0, 6, 94);
        is("20 minutes of grace", 0, d.rider(5, 3));
        d.pass(8);
        is("above them", 3, d.rider(5, 3));
        d.locked(0, 1, 103);
        d.unlocked(0, 5, 103);
        d.pass(35);
        is("grace ends with the ride", 8, d.rider(5, 3));
        due("cycle -1", Check.INDEX, () -> d.locked(-1, 0, 103));
        due("cycle 30", Check.INDEX, () -> d.locked(30, 0, 103));
        due("station -1", Check.INDEX, () -> d.locked(0, -1, 103));
        due("station 8", Check.INDEX, () -> d.locked(0, 8, 103));
    }

    private static void locksOfOthersPromises() {
        begin();
        d.unlocked(0, 0, 0);
        d.unlocked(1, 1, 0);
        d.promise(2, 1);
        d.promise(3, 1);
        d.locked(0, 1, 0);
        is("two places, both promised to others", WheelDocks.RIDDEN, d.cycle(0, 0));
        d.promise(2, 3);
        d.locked(1, 1, 0);
        is("one is free of promises", WheelDocks.DOCKED, d.cycle(1, 0));
        d.pass(1);
        d.unlocked(1, 1, 1);
        d.promise(1, 1);
        is("the last place", 2, d.station(1, 3));
        d.locked(1, 1, 1);
        is("a kept promise", WheelDocks.DOCKED, d.cycle(1, 0));
        is("is used", WheelDocks.NONE, d.rider(1, 4));
        is("others keep theirs", 1, d.rider(3, 4));
        is("no credit for a kept one", 0, d.rider(1, 2));
        d.promise(0, 2);
        d.docks(2, 0);
        d.locked(0, 1, 1);
        is("a lock elsewhere does not bite", WheelDocks.RIDDEN, d.cycle(0, 0));
        is("it uses no promise", 2, d.rider(0, 4));
        is("it gives no credit", 0, d.rider(0, 2));
        d.locked(0, 2, 1);
        is("a broken promise is used", WheelDocks.NONE, d.rider(0, 4));
        is("and gives credit", 100, d.rider(0, 2));
        d.pass(1);
        d.locked(0, 2, 2);
        is("once", 100, d.rider(0, 2));
        d.docks(2, 1);
        yes("promised anew", d.promise(0, 2));
        d.docks(2, 0);
        d.pass(1);
        d.locked(0, 2, 3);
        is("each broken promise gives credit", 200, d.rider(0, 2));
    }

    private static void faulty() {
        begin();
        yes("faulty", d.faulty(0, 9, 0));
        is("one rider does not block", 0, d.cycle(0, 2));
        d.pass(1);
        yes("by the same rider", d.faulty(0, 9, 1));
        is("still does not block", 0, d.cycle(0, 2));
        is("and is not odd", 0, d.odd());
        yes("by another one", d.faulty(0, 0, 1));
        is("blocks", 1, d.cycle(0, 2));
        yes("by a third one", d.faulty(0, 4, 1));
        is("is blocked still", 1, d.cycle(0, 2));
        d.unlocked(0, 3, 1);
        is("a blocked one is not unlocked", WheelDocks.DOCKED, d.cycle(0, 0));
        is("that is odd", 1, d.odd());
        yes("in the store", d.faulty(20, 1, 1));
        yes("in the store, by another one", d.faulty(20, 2, 0));
        is("in the store blocked", 1, d.cycle(20, 2));
        d.unlocked(1, 5, 1);
        d.faulty(1, 5, 1);
        d.faulty(1, 6, 1);
        is("ridden and blocked", 1, d.cycle(1, 2));
        is("ridden on", WheelDocks.RIDDEN, d.cycle(1, 0));
        d.locked(1, 1, 1);
        is("blocked, yet locked", WheelDocks.DOCKED, d.cycle(1, 0));
        is("faults are never odd", 1, d.odd());
        due("cycle -1", Check.INDEX, () -> d.faulty(-1, 0, 0));
        due("cycle 30", Check.INDEX, () -> d.faulty(30, 0, 0));
        due("rider -1", Check.INDEX, () -> d.faulty(0, -1, 0));
        due("rider 10", Check.INDEX, () -> d.faulty(0, 10, 0));
    }

    private static void mend() {
        begin();
        d.faulty(0, 1, 0);
        d.faulty(0, 2, 0);
        yes("mend", d.mend(0));
        is("has no faults", 0, d.cycle(0, 2));
        d.pass(1);
        d.faulty(0, 1, 1);
        is("counts anew from one", 0, d.cycle(0, 2));
        d.faulty(0, 2, 1);
        is("the same two count anew", 1, d.cycle(0, 2));
        yes("mend anew", d.mend(0));
        yes("mend of one without faults", d.mend(0));
        yes("mend in the store", d.mend(9));
        d.take(1);
        yes("mend in the van", d.mend(1));
        d.unlocked(0, 3, 1);
        d.faulty(0, 3, 1);
        d.faulty(0, 4, 1);
        no("mend of a ridden one", d.mend(0));
        is("its faults stay", 1, d.cycle(0, 2));
        is("it is odd", 1, d.odd());
        due("cycle -1", Check.INDEX, () -> d.mend(-1));
        due("cycle 30", Check.INDEX, () -> d.mend(30));
    }

    private static void price() {
        begin();
        d.unlocked(0, 0, 0);
        d.price(99);
        d.unlocked(1, 1, 0);
        d.price(0);
        d.unlocked(0, 2, 0);
        d.pass(32);
        is("ended at once", 0, d.rider(0, 3));
        is("a ride keeps its price", 198, d.rider(1, 3));
        is("price 0", 0, d.rider(2, 3));
        d.price(3);
        d.unlocked(0, 3, 31);
        d.pass(58);
        is("what was unlocked ahead of the price", 0, d.rider(3, 3));
        d.unlocked(0, 4, 32);
        is("of that minute, heard behind it", 3 * 28, d.rider(4, 3));
        is("price is never odd", 0, d.odd());
        done("price -1", Check.ARGUMENT, () -> d.price(-1));
        done("price 100", Check.ARGUMENT, () -> d.price(100));
        d.unlocked(0, 5, 90);
        d.pass(31);
        is("wrong prices change nothing", 3, d.rider(5, 3));
    }

    private static void bills() {
        begin();
        d.unlocked(0, 0, 0);
        d.pass(30);
        is("30 minutes", 0, d.rider(0, 3));
        d.pass(1);
        is("31 minutes", 1, d.rider(0, 3));
        d.unlocked(1, 0, 31);
        d.pass(31);
        is("each ride has its 30 minutes", 33, d.rider(0, 3));
        d.locked(0, 1, 62);
        d.locked(1, 1, 62);
        d.pass(100);
        is("ended rides cost no more", 33, d.rider(0, 3));
        d.unlocked(0, 0, 162);
        d.promise(0, 3);
        d.docks(3, 0);
        d.locked(0, 3, 162);
        is("the bill may be below 0", -67, d.rider(0, 3));
        is("the credit", 100, d.rider(0, 2));
    }

    private static void promise() {
        begin();
        yes("promise", d.promise(0, 1));
        is("is there", 1, d.rider(0, 4));
        yes("again, the second place", d.promise(0, 1));
        is("one there alone", 1, d.station(1, 3));
        yes("of another one", d.promise(1, 1));
        no("of a third one", d.promise(2, 1));
        no("his own one counts there", d.promise(0, 1));
        is("his stays as it was", 1, d.rider(0, 4));
        is("both are odd", 2, d.odd());
        no("where it is full", d.promise(0, 0));
        no("where there are no places", d.promise(0, 7));
        is("his still stays", 1, d.rider(0, 4));
        yes("elsewhere", d.promise(0, 2));
        is("in place of the other one", 2, d.rider(0, 4));
        is("one there less", 1, d.station(1, 3));
        is("free places do not count promises", 2, d.station(1, 2));
        yes("a third one", d.promise(2, 1));
        due("rider -1", Check.INDEX, () -> d.promise(-1, 1));
        due("rider 10", Check.INDEX, () -> d.promise(10, 1));
        due("station -1", Check.INDEX, () -> d.promise(0, -1));
        due("station 8", Check.INDEX, () -> d.promise(0, 8));
    }

    private static void promisesThatEnd() {
        begin();
        d.docks(1, 1);
        d.promise(0, 1);
        d.pass(14);
        is("14 minutes", 1, d.rider(0, 4));
        is("14 minutes there", 1, d.station(1, 3));
        no("not promised anew, his own one counted", d.promise(0, 1));
        no("14 minutes, to another one", d.promise(1, 1));
        d.pass(1);
        is("15 minutes", WheelDocks.NONE, d.rider(0, 4));
        is("15 minutes there", 0, d.station(1, 3));
        yes("15 minutes, to another one", d.promise(1, 1));
        d.unlocked(0, 0, 10);
        d.locked(0, 1, 14);
        is("a late lock sees what was promised then", WheelDocks.DOCKED, d.cycle(0, 0));
        is("and its place is gone for the other one", WheelDocks.NONE, d.rider(1, 4));
        begin();
        d.docks(1, 1);
        d.promise(0, 1);
        d.unlocked(0, 2, 0);
        d.pass(15);
        d.locked(0, 1, 14);
        is("others' promise at 14", WheelDocks.RIDDEN, d.cycle(0, 0));
        d.locked(0, 1, 15);
        is("others' promise at 15", WheelDocks.DOCKED, d.cycle(0, 0));
        begin();
        d.promise(0, 1);
        d.docks(1, 0);
        d.unlocked(0, 0, 0);
        d.pass(15);
        d.locked(0, 1, 15);
        is("no credit for an ended promise", 0, d.rider(0, 2));
        d.locked(0, 1, 14);
        is("credit for one of 14 minutes", 100, d.rider(0, 2));
    }

    private static void cycle() {
        begin();
        is("docked", WheelDocks.DOCKED, d.cycle(0, 0));
        is("at", 0, d.cycle(0, 1));
        d.unlocked(0, 7, 0);
        d.pass(4);
        is("ridden", WheelDocks.RIDDEN, d.cycle(0, 0));
        is("by", 7, d.cycle(0, 1));
        is("for", 4, d.cycle(0, 3));
        d.locked(0, 1, 4);
        d.unlocked(0, 8, 4);
        d.pass(5);
        is("for, together", 9, d.cycle(0, 3));
        d.take(1);
        is("in the van", WheelDocks.VAN, d.cycle(1, 0));
        is("at none", WheelDocks.NONE, d.cycle(1, 1));
        due("cycle -1", Check.INDEX, () -> d.cycle(-1, 0));
        due("cycle 30", Check.INDEX, () -> d.cycle(30, 0));
        due("what -1", Check.ARGUMENT, () -> d.cycle(0, -1));
        due("what 4", Check.ARGUMENT, () -> d.cycle(0, 4));
        due("both", Check.INDEX, () -> d.cycle(30, 4));
    }

    private static void station() {
        begin();
        d.docks(0, 5);
        d.promise(3, 0);
        is("places", 5, d.station(0, 0));
        is("cycles", 2, d.station(0, 1));
        is("free places", 3, d.station(0, 2));
        is("promised", 1, d.station(0, 3));
        is("empty", 0, d.station(0, 4));
        due("station -1", Check.INDEX, () -> d.station(-1, 0));
        due("station 8", Check.INDEX, () -> d.station(8, 0));
        due("what -1", Check.ARGUMENT, () -> d.station(0, -1));
        due("what 5", Check.ARGUMENT, () -> d.station(0, 5));
        due("both", Check.INDEX, () -> d.station(8, 5));
    }

    private static void emptyMinutes() {
        begin();
        d.docks(0, 2);
        d.take(1);
        d.unlocked(0, 0, 0);
        is("the minute of now does not count", 0, d.station(0, 4));
        d.pass(1);
        is("empty at the end of 0", 1, d.station(0, 4));
        d.locked(0, 0, 1);
        d.pass(1);
        is("not at the end of 1", 1, d.station(0, 4));
        d.unlocked(0, 0, 2);
        d.locked(0, 0, 2);
        d.pass(1);
        is("not within 2 alone", 1, d.station(0, 4));
        d.unlocked(0, 0, 3);
        d.pass(7);
        is("3 to 9", 8, d.station(0, 4));
        d.locked(0, 0, 5);
        is("3 to 4", 3, d.station(0, 4));
        is("a station without places counts", 10, d.station(7, 4));
    }

    private static void rider() {
        begin();
        d.unlocked(0, 6, 0);
        d.pass(40);
        d.unlocked(1, 6, 40);
        d.promise(6, 3);
        d.pass(2);
        is("rides", 2, d.rider(6, 0));
        is("minutes", 44, d.rider(6, 1));
        is("credit", 0, d.rider(6, 2));
        is("bill", 12, d.rider(6, 3));
        is("promised", 3, d.rider(6, 4));
        due("rider -1", Check.INDEX, () -> d.rider(-1, 0));
        due("rider 10", Check.INDEX, () -> d.rider(10, 0));
        due("what -1", Check.ARGUMENT, () -> d.rider(0, -1));
        due("what 5", Check.ARGUMENT, () -> d.rider(0, 5));
        due("both", Check.INDEX, () -> d.rider(10, 5));
    }

    private static void odd() {
        begin();
        d.pass(10);
        d.locked(0, 1, 5);
        is("a lock of a docked one", 1, d.odd());
        d.unlocked(0, 0, 4);
        is("is not odd any more", 0, d.odd());
        d.take(0);
        is("a docked one is taken", 0, d.odd());
        d.unlocked(0, 1, 7);
        is("what was taken was ridden", 1, d.odd());
        d.locked(0, 6, 8);
        is("a lock that does not bite", 2, d.odd());
        d.locked(0, 6, 8);
        is("once", 2, d.odd());
    }

    private static void nearest() {
        d = new WheelDocks();
        for (int s = 0; s < 8; s++) {
            d.lies(s, 10 * s, 0, 0);
        }
        is("no places", WheelDocks.NONE, d.nearest(0));
        d.docks(0, 1);
        is("not itself", WheelDocks.NONE, d.nearest(0));
        d.docks(3, 1);
        d.docks(5, 1);
        is("of two equal ones the lowest", 3, d.nearest(4));
        is("the near one", 5, d.nearest(6));
        d.lies(3, 30, 0, 1);
        is("the climb counts", 5, d.nearest(4));
        d.lies(4, 40, 0, 1);
        is("from above it does not", 3, d.nearest(4));
        d.put(0, 3);
        is("without a free place", 5, d.nearest(4));
        d.promise(0, 5);
        is("a promised place is free", 5, d.nearest(4));
        d.docks(3, 2);
        is("a free place again", 3, d.nearest(4));
        due("station -1", Check.INDEX, () -> d.nearest(-1));
        due("station 8", Check.INDEX, () -> d.nearest(8));
    }

    private static void way() {
        d = new WheelDocks();
        d.lies(0, 1, 1, 5);
        d.lies(1, 2, 2, 5);
        d.lies(2, 2, 2, 8);
        is("rounded down", 141, d.way(0, 1));
        is("back", 141, d.way(1, 0));
        is("up", 741, d.way(0, 2));
        is("down", 141, d.way(2, 0));
        is("straight up", 600, d.way(1, 2));
        is("to itself", 0, d.way(2, 2));
        due("station -1", Check.INDEX, () -> d.way(-1, 0));
        due("station 8", Check.INDEX, () -> d.way(8, 0));
        due("other -1", Check.INDEX, () -> d.way(0, -1));
        due("other 8", Check.INDEX, () -> d.way(0, 8));
    }

    private static void plan() {
        d = new WheelDocks();
        d.docks(6, 3);
        d.docks(2, 4);
        d.put(0, 6);
        is("none above", WheelDocks.NONE, d.plan());
        d.put(1, 6);
        is("one above, two lack", 62, d.plan());
        d.docks(1, 5);
        is("of several that lack the lowest", 61, d.plan());
        d.docks(1, 6);
        d.docks(2, 8);
        is("the most that lacks", 62, d.plan());
        d.docks(0, 1);
        d.put(2, 0);
        is("of several above the lowest", 2, d.plan());
        d.put(3, 6);
        is("the most above", 62, d.plan());
        d.docks(1, 0);
        d.docks(2, 1);
        is("none that lacks", WheelDocks.NONE, d.plan());
    }

    private static void agrees() {
        begin();
        d.unlocked(0, 0, 0);
        d.pass(20);
        d.unlocked(0, 1, 5);
        d.unlocked(0, 2, 5);
        d.unlocked(1, 2, 7);
        d.locked(0, 7, 9);
        yes("agrees with rides that go on", d.agrees());
        d.locked(0, 1, 11);
        d.locked(1, 1, 20);
        yes("agrees with ended rides", d.agrees());
    }

    private static void whatComesLate() {
        begin();
        d.pass(20);
        yes("put now", d.put(2, 1));
        yes("put now too", d.put(3, 1));
        d.unlocked(0, 0, 5);
        d.locked(0, 1, 10);
        is("a place that was free then", 1, d.cycle(0, 1));
        is("a put that has become odd", 1, d.odd());
        is("its cycle is in the store", WheelDocks.STORE, d.cycle(3, 0));
        begin();
        d.pass(5);
        d.unlocked(0, 0, 5);
        d.unlocked(0, 1, 5);
        is("of one minute as heard", 1, d.cycle(0, 1));
        d.unlocked(0, 2, 4);
        is("that stays", 1, d.cycle(0, 1));
        d.unlocked(0, 3, 5);
        is("the last one heard", 3, d.cycle(0, 1));
        is("his ride lasted to that minute", 1, d.rider(2, 1));
        begin();
        d.unlocked(0, 0, 0);
        d.price(50);
        d.pass(40);
        is("a ride of the first price", 10, d.rider(0, 3));
        d.faulty(1, 1, 39);
        d.faulty(1, 1, 38);
        is("keeps it, when something comes late", 10, d.rider(0, 3));
    }

    private static void threeHundred() {
        d = new WheelDocks();
        d.docks(0, 2);
        for (int i = 1; i < 297; i++) {
            d.price(i % 100);
        }
        no("an odd one is heard", d.take(0));
        yes("faulty", d.faulty(0, 0, 0));
        no("one that was heard is not heard again", d.faulty(0, 0, 0));
        yes("the 300th", d.put(0, 0));
        done("docks", Check.STATE, () -> d.docks(0, 1));
        due("put", Check.STATE, () -> d.put(1, 0));
        due("take", Check.STATE, () -> d.take(0));
        due("unlocked", Check.STATE, () -> d.unlocked(0, 0, 0));
        due("locked", Check.STATE, () -> d.locked(0, 0, 0));
        due("faulty", Check.STATE, () -> d.faulty(1, 0, 0));
        due("faulty, that was heard", Check.STATE, () -> d.faulty(0, 0, 0));
        due("mend", Check.STATE, () -> d.mend(0));
        done("price", Check.STATE, () -> d.price(1));
        due("promise", Check.STATE, () -> d.promise(0, 0));
        is("nothing has changed", WheelDocks.DOCKED, d.cycle(0, 0));
        is("nothing is odd", 1, d.odd());
        is("minutes pass", 5, d.pass(5));
        d.lies(0, 1, 1, 1);
        is("lies is not heard", 341, d.way(1, 0));
    }

    /** Behind threeHundred(), on its object: of several exceptions the first one of the throws clause. */
    private static void firstException() {
        done("docks, index", Check.INDEX, () -> d.docks(8, 21));
        done("docks, argument", Check.ARGUMENT, () -> d.docks(7, 21));
        due("put, index", Check.INDEX, () -> d.put(0, 8));
        due("take, index", Check.INDEX, () -> d.take(30));
        due("unlocked, index", Check.INDEX, () -> d.unlocked(0, 10, -1));
        due("unlocked, argument", Check.ARGUMENT, () -> d.unlocked(0, 9, -1));
        due("locked, index", Check.INDEX, () -> d.locked(0, 8, -1));
        due("locked, argument", Check.ARGUMENT, () -> d.locked(0, 7, -1));
        due("faulty, index", Check.INDEX, () -> d.faulty(0, 10, -1));
        due("faulty, argument", Check.ARGUMENT, () -> d.faulty(0, 9, -1));
        due("mend, index", Check.INDEX, () -> d.mend(30));
        done("price, argument", Check.ARGUMENT, () -> d.price(100));
        due("promise, index", Check.INDEX, () -> d.promise(10, 8));
    }
}
