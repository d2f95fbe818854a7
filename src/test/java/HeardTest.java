/** The section "What is heard", sentence by sentence: minutes, what is heard once, and what comes late. */
public final class HeardTest extends Cases {
    public static void main(String[] args) {
        minutesAreCountedFromNought();
        docksIsHeardNow();
        putIsHeardNow();
        takeIsHeardNow();
        mendIsHeardNow();
        priceIsHeardNow();
        promiseIsHeardNow();
        toldMinuteIsTheMinute();
        sixtyMinutesLateChangesAllSince();
        unlockedOnce();
        lockedOnce();
        faultyOnce();
        oddOnesOnce();
        theVeryFirstOnce();
        sameButForOneIsAnother();
        calledTwiceIsHeardTwice();
        ofOneMinuteAsHeard();
        byMinutesNotAsHeard();
        aheadOfTheVeryFirst();
        lateOnesAmongLateOnes();
        lateOneThatChangesNothing();
        soBecomesOdd();
        oddBecomesSo();
        answersTellOfThen();
        CHECK.end("HeardTest");
    }

    private static void minutesAreCountedFromNought() {
        begin();
        due("minute -1", Check.ARGUMENT, () -> d.unlocked(0, 0, -1));
        yes("minute 0 at 0", d.unlocked(0, 0, 0));
        is("now is 0 at first: no minute passed", 0, d.rider(0, 1));
        is("one minute later now is 1", 1, d.pass(1));
        is("one minute passed", 1, d.rider(0, 1));
        yes("minute 0 at 1", d.faulty(0, 0, 0));
    }

    /** Cycle 0 ridden from 0 on, now is 10, and nothing else was heard since. */
    private static void ridingAtTen() {
        beginRidden();
        d.pass(10);
    }

    private static void docksIsHeardNow() {
        ridingAtTen();
        d.docks(7, 1);
        d.pass(5);
        d.locked(0, 7, 9);
        is("a minute ahead of docks there is no place", WheelDocks.RIDDEN, d.cycle(0, 0));
        d.locked(0, 7, 10);
        is("in the minute of docks, behind it, there is one", 7, d.cycle(0, 1));
        is("locked then", 10, d.rider(0, 1));
    }

    private static void putIsHeardNow() {
        begin();
        d.pass(10);
        d.put(5, 1);
        d.pass(5);
        d.unlocked(5, 3, 9);
        is("a minute ahead of put it is in the store", WheelDocks.DOCKED, d.cycle(5, 0));
        is("which is odd", 1, d.odd());
        is("the station was empty until put", 10, d.station(1, 4));
        d.unlocked(5, 3, 10);
        is("in the minute of put, behind it, it is ridden", 3, d.cycle(5, 1));
        is("ridden since then", 5, d.cycle(5, 3));
    }

    private static void takeIsHeardNow() {
        begin();
        d.pass(10);
        d.take(0);
        d.pass(5);
        d.unlocked(0, 3, 10);
        is("in the minute of take, behind it, it is in the van", WheelDocks.VAN, d.cycle(0, 0));
        d.unlocked(0, 4, 9);
        is("a minute ahead it is docked", WheelDocks.RIDDEN, d.cycle(0, 0));
        is("then the take is odd, and the second unlock not", 1, d.odd());
        is("ridden by the second one", 3, d.cycle(0, 1));
        is("since the minute ahead", 6, d.cycle(0, 3));
    }

    private static void mendIsHeardNow() {
        begin();
        d.faulty(0, 1, 0);
        d.faulty(0, 2, 0);
        d.pass(10);
        d.mend(0);
        d.pass(5);
        d.faulty(0, 3, 9);
        d.faulty(0, 4, 9);
        is("faults of a minute ahead of mend are mended", 0, d.cycle(0, 2));
        d.unlocked(0, 5, 9);
        is("a minute ahead of mend it is blocked", WheelDocks.DOCKED, d.cycle(0, 0));
        d.faulty(0, 3, 10);
        is("a fault in the minute of mend, behind it, counts", 0, d.cycle(0, 2));
        d.faulty(0, 4, 10);
        is("and a second one", 1, d.cycle(0, 2));
    }

    private static void priceIsHeardNow() {
        begin();
        d.pass(10);
        d.price(50);
        d.pass(5);
        d.unlocked(0, 0, 9);
        d.unlocked(1, 1, 10);
        d.pass(26);
        is("begun a minute ahead of price", 2, d.rider(0, 3));
        is("begun in the minute of price, behind it", 50, d.rider(1, 3));
    }

    private static void promiseIsHeardNow() {
        ridingAtTen();
        d.docks(1, 1);
        d.promise(5, 1);
        d.pass(5);
        d.locked(0, 1, 10);
        is("in the minute of promise, behind it, the place is another one's", WheelDocks.RIDDEN, d.cycle(0, 0));
        d.locked(1, 1, 9);
        is("a minute ahead it is not", WheelDocks.DOCKED, d.cycle(1, 0));
        is("then there is none to promise", WheelDocks.NONE, d.rider(5, 4));
        is("the promise and the lock are odd", 2, d.odd());
    }

    private static void toldMinuteIsTheMinute() {
        begin();
        d.pass(100);
        d.unlocked(0, 2, 40);
        is("unlocked in the minute told", 60, d.rider(2, 1));
        d.locked(0, 1, 90);
        is("locked in the minute told", 50, d.rider(2, 1));
        d.unlocked(0, 5, 89);
        is("handed over in the minute told", 1, d.rider(5, 1));
        is("and not before", 49, d.rider(2, 1));
    }

    private static void sixtyMinutesLateChangesAllSince() {
        begin();
        d.pass(60);
        d.unlocked(0, 9, 60);
        d.pass(60);
        d.take(0);
        is("taken while ridden is odd", 1, d.odd());
        d.locked(0, 3, 60);
        is("60 minutes late is heard", 0, d.odd());
        is("and changes what was since", WheelDocks.VAN, d.cycle(0, 0));
        due("61 minutes late is not", Check.ARGUMENT, () -> d.unlocked(1, 1, 59));
        is("and changes nothing", WheelDocks.DOCKED, d.cycle(1, 0));
    }

    private static void unlockedOnce() {
        begin();
        yes("heard for the first time", d.unlocked(0, 3, 0));
        d.locked(0, 1, 0);
        no("the same one is not heard again", d.unlocked(0, 3, 0));
        is("it is docked still", WheelDocks.DOCKED, d.cycle(0, 0));
        d.pass(60);
        no("60 minutes later neither", d.unlocked(0, 3, 0));
        is("no second ride", 1, d.rider(3, 0));
        is("and nothing odd", 0, d.odd());
        d.pass(1);
        due("61 minutes later it is out of range", Check.ARGUMENT, () -> d.unlocked(0, 3, 0));
    }

    private static void lockedOnce() {
        beginRidden();
        d.docks(7, 1);
        d.promise(0, 7);
        d.docks(7, 0);
        yes("a lock that does not bite is heard", d.locked(0, 7, 0));
        no("once", d.locked(0, 7, 0));
        no("and once", d.locked(0, 7, 0));
        is("it is odd once", 1, d.odd());
        is("it gives credit once", 100, d.rider(0, 2));
        d.pass(45);
        no("later too", d.locked(0, 7, 0));
        is("it gives grace once", 5 - 100, d.rider(0, 3));
        yes("a lock that bites", d.locked(0, 1, 45));
        d.unlocked(0, 0, 45);
        no("is heard once", d.locked(0, 1, 45));
        is("it is ridden again", WheelDocks.RIDDEN, d.cycle(0, 0));
    }

    private static void faultyOnce() {
        begin();
        yes("faulty", d.faulty(0, 1, 0));
        d.mend(0);
        no("the same one, behind a mend", d.faulty(0, 1, 0));
        yes("another one", d.faulty(0, 2, 0));
        is("only the other one is a fault", 0, d.cycle(0, 2));
        yes("a third one", d.faulty(0, 3, 0));
        is("two faults", 1, d.cycle(0, 2));
    }

    private static void oddOnesOnce() {
        begin();
        yes("unlocked in the store", d.unlocked(5, 1, 0));
        d.put(5, 1);
        no("heard once, odd as it was", d.unlocked(5, 1, 0));
        is("it is docked", WheelDocks.DOCKED, d.cycle(5, 0));
        yes("locked while docked", d.locked(5, 2, 0));
        d.unlocked(5, 2, 0);
        no("heard once, odd as it was too", d.locked(5, 2, 0));
        is("it is ridden", WheelDocks.RIDDEN, d.cycle(5, 0));
        is("two are odd", 2, d.odd());
    }

    private static void theVeryFirstOnce() {
        fresh();
        yes("faulty, the very first", d.faulty(0, 0, 0));
        no("is heard once", d.faulty(0, 0, 0));
        yes("unlocked, of the same numbers", d.unlocked(0, 0, 0));
        yes("locked, of the same numbers", d.locked(0, 0, 0));
        no("unlocked once", d.unlocked(0, 0, 0));
        no("locked once", d.locked(0, 0, 0));
        is("two are odd", 2, d.odd());
        fresh();
        yes("unlocked, the very first", d.unlocked(29, 9, 0));
        no("is heard once too", d.unlocked(29, 9, 0));
        fresh();
        yes("locked, the very first", d.locked(29, 7, 0));
        no("is heard once as well", d.locked(29, 7, 0));
    }

    private static void sameButForOneIsAnother() {
        begin();
        d.pass(3);
        yes("unlocked", d.unlocked(1, 1, 2));
        yes("locked, of the same numbers", d.locked(1, 1, 2));
        yes("faulty, of the same numbers", d.faulty(1, 1, 2));
        yes("unlocked, another cycle", d.unlocked(2, 1, 2));
        yes("unlocked, another rider", d.unlocked(1, 2, 2));
        yes("unlocked, another minute", d.unlocked(1, 1, 3));
        yes("locked, another cycle", d.locked(2, 1, 2));
        yes("locked, another station", d.locked(1, 2, 2));
        yes("locked, another minute", d.locked(1, 1, 3));
        yes("faulty, another cycle", d.faulty(2, 1, 2));
        yes("faulty, another rider", d.faulty(1, 2, 2));
        yes("faulty, another minute", d.faulty(1, 1, 3));
        yes("unlocked, cycle and rider changed about", d.unlocked(2, 3, 1));
        yes("unlocked, numbers changed about", d.unlocked(3, 2, 1));
        no("unlocked, the first one", d.unlocked(1, 1, 2));
        no("locked, the first one", d.locked(1, 1, 2));
        no("faulty, the first one", d.faulty(1, 1, 2));
    }

    private static void calledTwiceIsHeardTwice() {
        begin();
        yes("take", d.take(0));
        no("take again is odd", d.take(0));
        yes("put", d.put(0, 1));
        no("put again is odd", d.put(0, 1));
        yes("take in the same minute", d.take(0));
        yes("put in the same minute", d.put(0, 1));
        yes("mend", d.mend(0));
        yes("mend again", d.mend(0));
        yes("promise", d.promise(1, 1));
        no("promise again is odd", d.promise(1, 1));
        d.docks(1, 2);
        d.docks(1, 3);
        d.docks(1, 2);
        is("docks each time", 2, d.station(1, 0));
        is("three are odd", 3, d.odd());
    }

    private static void ofOneMinuteAsHeard() {
        begin();
        d.pass(9);
        d.unlocked(0, 0, 5);
        d.locked(0, 1, 5);
        is("unlocked and locked", 1, d.cycle(0, 1));
        is("is not odd", 0, d.odd());
        begin();
        d.pass(9);
        d.locked(0, 1, 5);
        d.unlocked(0, 0, 5);
        is("locked and unlocked", WheelDocks.RIDDEN, d.cycle(0, 0));
        is("is odd", 1, d.odd());
        begin();
        d.pass(9);
        d.take(0);
        d.unlocked(0, 0, 9);
        is("what is told of now is behind what is of now", WheelDocks.VAN, d.cycle(0, 0));
        d.put(0, 0);
        yes("and ahead of what comes then", d.unlocked(0, 1, 9));
        is("ridden by that one", 1, d.cycle(0, 1));
    }

    private static void byMinutesNotAsHeard() {
        begin();
        d.pass(9);
        d.locked(0, 1, 6);
        d.unlocked(0, 0, 5);
        is("locked, heard first, behind unlocked", 1, d.cycle(0, 1));
        is("is not odd", 0, d.odd());
        is("ridden for a minute", 1, d.rider(0, 1));
        d.unlocked(0, 1, 4);
        is("a second unlock of what was ridden", 1, d.rider(1, 1));
        is("changes nothing of the first one", 1, d.rider(0, 1));
        is("two minutes of the cycle", 2, d.cycle(0, 3));
    }

    private static void aheadOfTheVeryFirst() {
        fresh();
        d.pass(10);
        d.mend(0);
        d.faulty(0, 1, 9);
        d.faulty(0, 2, 0);
        is("faults ahead of the very first mend", 0, d.cycle(0, 2));
        d.faulty(0, 1, 10);
        d.faulty(0, 2, 10);
        is("faults behind it", 1, d.cycle(0, 2));
        fresh();
        d.docks(0, 1);
        d.put(0, 0);
        d.pass(60);
        d.locked(0, 0, 60);
        d.unlocked(0, 1, 1);
        d.locked(0, 0, 2);
        d.unlocked(0, 2, 0);
        is("in the minute of the very first, behind it", 1, d.rider(2, 1));
        is("what was heard ahead of it", 1, d.rider(1, 1));
        is("locked in the end is odd", 1, d.odd());
    }

    /** A late fault of a cycle that none uses lets all be gone through anew: credit, grace and bills stay. */
    private static void lateOneThatChangesNothing() {
        String[] pictures = new String[2];
        for (int late = 0; late <= 1; late++) {
            beginRidden();
            d.price(8);
            d.promise(0, 1);
            d.promise(1, 2);
            d.docks(1, 0);
            d.locked(0, 1, 0);
            d.pass(50);
            d.unlocked(1, 3, 45);
            d.faulty(4, 1, 44);
            d.faulty(4, 2, 44);
            d.promise(6, 3);
            d.take(29);
            d.pass(9);
            d.docks(4, 5);
            if (late == 1) {
                yes("a late one", d.faulty(20, 5, 1));
                yes("another late one", d.faulty(20, 5, 59));
                yes("a later one", d.faulty(20, 5, 0));
            }
            pictures[late] = Picture.of(d);
            is("the credit", 100, d.rider(0, 2));
            is("the bill, with grace", 59 - 40 - 100, d.rider(0, 3));
        }
        CHECK.same("behind a late one that changes nothing", pictures[0], pictures[1]);
    }

    private static void lateOnesAmongLateOnes() {
        begin();
        d.pass(60);
        for (int minute = 60; minute >= 0; minute -= 5) {
            d.unlocked(0, minute / 5 % 10, minute);
        }
        is("the last one by minutes rides it", 2, d.cycle(0, 1));
        is("thirteen rode five minutes each", 60, d.cycle(0, 3));
        is("one of those who rode twice", 10, d.rider(1, 1));
        is("one of those who rode once", 5, d.rider(5, 1));
        is("he who rides now rode before", 5, d.rider(2, 1));
        yes("agrees", d.agrees());
        is("none is odd", 0, d.odd());
        d.pass(2);
        is("he rides on", 7, d.rider(2, 1));
    }

    private static void soBecomesOdd() {
        begin();
        d.pass(20);
        yes("take", d.take(0));
        yes("put", d.put(9, 0));
        yes("promise", d.promise(5, 1));
        d.faulty(1, 1, 19);
        d.faulty(1, 2, 19);
        yes("mend", d.mend(1));
        is("nothing is odd", 0, d.odd());
        d.unlocked(1, 8, 18);
        is("a mend of what was ridden is odd", 1, d.odd());
        is("the faults stay", 1, d.cycle(1, 2));
        d.unlocked(0, 7, 17);
        is("a take of what was ridden is odd too", 2, d.odd());
        is("it is ridden", WheelDocks.RIDDEN, d.cycle(0, 0));
        is("what was put is there", 0, d.cycle(9, 1));
        d.locked(0, 1, 18);
        is("a take of what was locked elsewhere is not", 1, d.odd());
        is("it is in the van", WheelDocks.VAN, d.cycle(0, 0));
        is("the promise is as it was", 1, d.rider(5, 4));
    }

    private static void oddBecomesSo() {
        begin();
        d.pass(20);
        no("put where it is full", d.put(5, 0));
        no("put where it is full too", d.put(6, 0));
        no("promise where it is full", d.promise(4, 0));
        is("three are odd", 3, d.odd());
        d.unlocked(0, 0, 3);
        is("a put has a place now", 0, d.cycle(5, 1));
        is("the other one has none", WheelDocks.STORE, d.cycle(6, 0));
        is("two are odd", 2, d.odd());
        d.unlocked(1, 1, 4);
        is("the other put has one too", 0, d.cycle(6, 1));
        is("one is odd", 1, d.odd());
        is("a promise has none", WheelDocks.NONE, d.rider(4, 4));
        begin();
        d.unlocked(0, 0, 0);
        d.faulty(0, 1, 0);
        d.faulty(0, 2, 0);
        d.pass(20);
        no("mend of a ridden one", d.mend(0));
        no("take of a ridden one", d.take(0));
        is("two are odd again", 2, d.odd());
        d.locked(0, 1, 19);
        is("mended, since it was locked", 0, d.cycle(0, 2));
        is("taken, since it was locked", WheelDocks.VAN, d.cycle(0, 0));
        is("none is odd", 0, d.odd());
    }

    /** The answers of put, take, mend and promise tell what is when they are heard, behind all told of before. */
    private static void answersTellOfThen() {
        begin();
        d.pass(20);
        d.unlocked(0, 0, 20);
        no("take of what is ridden since now", d.take(0));
        d.locked(0, 0, 20);
        yes("take of what is locked since now", d.take(0));
        d.unlocked(1, 1, 10);
        no("mend of what is ridden since 10", d.mend(1));
        yes("put at the free place", d.put(2, 0));
        yes("put at the other free place", d.put(3, 0));
        no("put without a free place", d.put(4, 0));
        no("promise without a free place", d.promise(4, 0));
        is("what is odd", 4, d.odd());
    }
}
