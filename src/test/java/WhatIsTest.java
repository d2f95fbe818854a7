/** The section "What is", sentence by sentence: cycles, places, locks, faults, prices and promises at their edges. */
public final class WhatIsTest extends Cases {
    public static void main(String[] args) {
        freePlacesNoughtAtLeast();
        docksLetsCyclesStay();
        docksIsNeverOdd();
        putFromStoreOrVanAlone();
        putAtTheLastPlace();
        putPromisedOrNot();
        takeOfADockedOneAlone();
        unlockedWhenDockedAlone();
        unlockedWhenNotBlocked();
        unlockedByAnotherOne();
        unlockedByTheSameOne();
        lockedWithMoreFreePlacesThanOthersPromised();
        lockedUsesThePromiseThereAlone();
        lockedUsesThePromiseOfItsRiderAlone();
        lockedWhenNotRidden();
        creditForEachPromiseBroken();
        graceIsOfTheRide();
        faultsCountByRiders();
        faultsInEachState();
        mendInEachState();
        mendBetweenFaults();
        priceFromThenOn();
        promiseWithMorePlacesThanPromised();
        promiseCountsTheOwnOne();
        promiseInPlaceOfAnother();
        promiseForFifteenMinutes();
        promiseAnewForFifteenMore();
        refusedPromiseLeavesTheOldOne();
        endedPromiseIsNone();
        promiseOutlivesPlaces();
        oddChangesNothingElse();
        CHECK.end("WhatIsTest");
    }

    /** A new object with so many cycles, from 0 on, docked at station 0, that has just so many places. */
    private static void fullStation(int cycles) {
        fresh();
        d.docks(0, cycles);
        for (int cycle = 0; cycle < cycles; cycle++) {
            d.put(cycle, 0);
        }
    }

    private static void freePlacesNoughtAtLeast() {
        fullStation(3);
        for (int places = 20; places >= 0; places--) {
            d.docks(0, places);
            is("free places of " + places + " with 3 cycles", Math.max(0, places - 3), d.station(0, 2));
        }
        no("put at a station above its places", d.put(9, 0));
        no("promise there", d.promise(0, 0));
        is("it is no near place", WheelDocks.NONE, d.nearest(1));
        d.docks(0, 2);
        d.take(0);
        is("one less than too many", 0, d.station(0, 2));
        no("put there still", d.put(9, 0));
        d.take(1);
        is("one less than full", 1, d.station(0, 2));
        yes("put there now", d.put(9, 0));
    }

    private static void docksLetsCyclesStay() {
        fullStation(20);
        is("20 cycles", 20, d.station(0, 1));
        no("the 21st", d.put(20, 0));
        d.docks(0, 0);
        is("20 cycles stay without a place", 20, d.station(0, 1));
        for (int cycle = 0; cycle < 20; cycle++) {
            is("cycle " + cycle + " is docked", WheelDocks.DOCKED, d.cycle(cycle, 0));
            is("cycle " + cycle + " is there", 0, d.cycle(cycle, 1));
        }
        d.unlocked(19, 0, 0);
        is("one can be unlocked", WheelDocks.RIDDEN, d.cycle(19, 0));
        d.locked(19, 0, 0);
        is("and not locked there", WheelDocks.RIDDEN, d.cycle(19, 0));
        yes("one can be taken", d.take(18));
        no("and not put there", d.put(18, 0));
        d.docks(0, 19);
        yes("with a place it can", d.put(18, 0));
    }

    private static void docksIsNeverOdd() {
        fresh();
        d.docks(3, 0);
        d.docks(3, 20);
        d.docks(3, 20);
        d.docks(3, 0);
        is("docks is never odd", 0, d.odd());
        is("the last one holds", 0, d.station(3, 0));
        is("the others have none", 0, d.station(2, 0));
        d.docks(3, 1);
        is("of one station alone", 0, d.station(4, 0));
    }

    private static void putFromStoreOrVanAlone() {
        begin();
        yes("from the store", d.put(2, 1));
        no("docked, to another one", d.put(2, 2));
        no("docked, to its own", d.put(2, 1));
        is("it is where it was", 1, d.cycle(2, 1));
        d.unlocked(2, 0, 0);
        no("ridden", d.put(2, 2));
        is("it is ridden still", WheelDocks.RIDDEN, d.cycle(2, 0));
        is("by him", 0, d.cycle(2, 1));
        d.take(1);
        yes("from the van", d.put(1, 2));
        is("it is there", 2, d.cycle(1, 1));
        is("three are odd", 3, d.odd());
        d.faulty(9, 1, 0);
        d.faulty(9, 2, 0);
        yes("a blocked one", d.put(9, 2));
    }

    private static void putAtTheLastPlace() {
        fresh();
        no("at a station without places", d.put(0, 0));
        d.docks(0, 1);
        yes("at the only place", d.put(0, 0));
        is("no place is free", 0, d.station(0, 2));
        no("at a full station", d.put(1, 0));
        is("one cycle is there", 1, d.station(0, 1));
        is("the other one is in the store", WheelDocks.STORE, d.cycle(1, 0));
        is("and nowhere", WheelDocks.NONE, d.cycle(1, 1));
        d.take(0);
        yes("at a place that is free again", d.put(1, 0));
        no("full again, from the van", d.put(0, 0));
        is("it is in the van", WheelDocks.VAN, d.cycle(0, 0));
    }

    private static void putPromisedOrNot() {
        begin();
        d.promise(1, 1);
        d.promise(2, 1);
        yes("at a place that is promised", d.put(2, 1));
        yes("at the other one", d.put(3, 1));
        is("both are promised still", 2, d.station(1, 3));
        is("none is free", 0, d.station(1, 2));
        no("at none", d.put(4, 1));
    }

    private static void takeOfADockedOneAlone() {
        begin();
        no("in the store", d.take(2));
        is("it stays there", WheelDocks.STORE, d.cycle(2, 0));
        yes("docked", d.take(0));
        is("it is in the van", WheelDocks.VAN, d.cycle(0, 0));
        is("and nowhere", WheelDocks.NONE, d.cycle(0, 1));
        is("one is left", 1, d.station(0, 1));
        no("in the van", d.take(0));
        is("one is left still", 1, d.station(0, 1));
        d.unlocked(1, 5, 0);
        no("ridden", d.take(1));
        is("ridden by him", 5, d.cycle(1, 1));
        is("three are odd", 3, d.odd());
    }

    private static void unlockedWhenDockedAlone() {
        begin();
        d.unlocked(2, 1, 0);
        is("in the store it stays", WheelDocks.STORE, d.cycle(2, 0));
        d.take(1);
        d.unlocked(1, 1, 0);
        is("in the van it stays", WheelDocks.VAN, d.cycle(1, 0));
        is("that is nowhere", WheelDocks.NONE, d.cycle(1, 1));
        is("no ride began", 0, d.rider(1, 0));
        is("both are odd", 2, d.odd());
        d.unlocked(0, 0, 0);
        is("docked it is ridden", WheelDocks.RIDDEN, d.cycle(0, 0));
        is("the last one left the station", 0, d.station(0, 1));
        is("one ride began", 1, d.rider(0, 0));
    }

    private static void unlockedWhenNotBlocked() {
        begin();
        d.faulty(0, 1, 0);
        d.unlocked(0, 1, 0);
        is("with one fault it is ridden", WheelDocks.RIDDEN, d.cycle(0, 0));
        d.locked(0, 1, 0);
        d.faulty(0, 2, 0);
        d.unlocked(0, 3, 0);
        is("with two it is not", WheelDocks.DOCKED, d.cycle(0, 0));
        is("no ride began", 0, d.rider(3, 0));
        is("that is odd", 1, d.odd());
        d.mend(0);
        d.unlocked(0, 4, 0);
        is("mended it is", 4, d.cycle(0, 1));
    }

    private static void unlockedByAnotherOne() {
        beginRidden();
        d.pass(12);
        d.unlocked(0, 1, 12);
        is("another one rides it", 1, d.cycle(0, 1));
        is("a ride of his began, his second one", 2, d.rider(1, 0));
        is("none of the first one", 1, d.rider(0, 0));
        d.pass(3);
        is("the first one's ride has ended", 12, d.rider(0, 1));
        is("the other one's goes on", 15 + 3, d.rider(1, 1));
        d.unlocked(0, 0, 15);
        is("back to the first one", 0, d.cycle(0, 1));
        is("his second ride", 2, d.rider(0, 0));
        is("nothing is odd", 0, d.odd());
        d.faulty(0, 5, 15);
        d.faulty(0, 6, 15);
        d.unlocked(0, 2, 15);
        is("a blocked one is handed over too", 2, d.cycle(0, 1));
        is("that is not odd", 0, d.odd());
        is("no station has changed", 0, d.station(0, 1));
    }

    private static void unlockedByTheSameOne() {
        beginRidden();
        d.price(9);
        d.pass(31);
        d.unlocked(0, 0, 20);
        is("by the same one is odd", 1, d.odd());
        is("no ride began", 1, d.rider(0, 0));
        is("the ride goes on", 31, d.rider(0, 1));
        is("at its price", 1, d.rider(0, 3));
    }

    /** Cycle 0 ridden by rider 0; station 1 has so many free places, so many promised to others, one to him or not. */
    private static void promisedPlaces(int free, int others, boolean own) {
        begin();
        d.unlocked(0, 0, 0);
        d.docks(1, 20);
        for (int rider = 9; rider > 9 - others; rider--) {
            d.promise(rider, 1);
        }
        if (own) {
            d.promise(0, 1);
        }
        d.docks(1, free);
    }

    private static void lockedWithMoreFreePlacesThanOthersPromised() {
        for (int free = 0; free <= 10; free++) {
            for (int others = 0; others <= 9; others++) {
                for (int own = 0; own <= 1; own++) {
                    lockedOf(free, others, own == 1);
                }
            }
        }
    }

    private static void lockedOf(int free, int others, boolean own) {
        promisedPlaces(free, others, own);
        d.locked(0, 1, 0);
        boolean bites = free > others;
        String of = "locked with " + free + " free, " + others + " promised to others, own " + own + ": ";
        is(of + "state", bites ? WheelDocks.DOCKED : WheelDocks.RIDDEN, d.cycle(0, 0));
        is(of + "odd", bites ? 0 : 1, d.odd());
        is(of + "cycles there", bites ? 1 : 0, d.station(1, 1));
        is(of + "promised there", others, d.station(1, 3));
        is(of + "own promise is used", WheelDocks.NONE, d.rider(0, 4));
        is(of + "credit", own && !bites ? 100 : 0, d.rider(0, 2));
        d.pass(41);
        is(of + "cost", bites ? 0 : 1, d.rider(0, 3) + d.rider(0, 2));
    }

    private static void lockedUsesThePromiseThereAlone() {
        beginRidden();
        d.promise(0, 2);
        d.locked(0, 1, 0);
        is("a lock elsewhere bites", 1, d.cycle(0, 1));
        is("it uses no promise", 2, d.rider(0, 4));
        d.promise(1, 3);
        d.docks(1, 0);
        d.locked(1, 1, 0);
        is("a lock elsewhere does not bite", WheelDocks.RIDDEN, d.cycle(1, 0));
        is("it uses no promise either", 3, d.rider(1, 4));
        is("it gives no credit", 0, d.rider(1, 2));
        d.locked(1, 3, 0);
        is("a lock there bites", 3, d.cycle(1, 1));
        is("and uses it", WheelDocks.NONE, d.rider(1, 4));
        is("no other one's", 2, d.rider(0, 4));
    }

    private static void lockedUsesThePromiseOfItsRiderAlone() {
        begin();
        d.unlocked(0, 4, 0);
        d.unlocked(1, 4, 0);
        d.promise(4, 1);
        d.promise(5, 1);
        d.locked(0, 1, 0);
        is("the place that was promised", WheelDocks.DOCKED, d.cycle(0, 0));
        is("is used", WheelDocks.NONE, d.rider(4, 4));
        d.locked(1, 1, 0);
        is("his second cycle finds another one's place", WheelDocks.RIDDEN, d.cycle(1, 0));
        is("without credit", 0, d.rider(4, 2));
        is("the other one keeps it", 1, d.rider(5, 4));
        d.unlocked(1, 5, 0);
        d.pass(1);
        d.locked(1, 1, 1);
        is("handed over, it has the promise of who rides it", WheelDocks.DOCKED, d.cycle(1, 0));
        is("that is used", WheelDocks.NONE, d.rider(5, 4));
    }

    private static void lockedWhenNotRidden() {
        begin();
        d.promise(0, 1);
        d.take(1);
        d.locked(0, 1, 0);
        d.locked(1, 1, 0);
        d.locked(2, 1, 0);
        is("docked it stays", 0, d.cycle(0, 1));
        is("in the van it stays", WheelDocks.VAN, d.cycle(1, 0));
        is("in the store it stays", WheelDocks.STORE, d.cycle(2, 0));
        is("all are odd", 3, d.odd());
        is("no promise is used", 1, d.rider(0, 4));
        is("none gives credit", 0, d.rider(0, 2));
        d.unlocked(0, 0, 0);
        d.pass(31);
        is("none gives grace", 1, d.rider(0, 3));
    }

    private static void creditForEachPromiseBroken() {
        begin();
        d.unlocked(0, 0, 0);
        for (int time = 1; time <= 5; time++) {
            d.docks(1, 1);
            yes("promise " + time, d.promise(0, 1));
            d.docks(1, 0);
            d.locked(0, 1, time - 1);
            is("credit of promise " + time, 100 * time, d.rider(0, 2));
            is("bill of promise " + time, -100 * time, d.rider(0, 3));
            d.pass(1);
        }
        is("of no other one", 0, d.rider(1, 2));
    }

    private static void graceIsOfTheRide() {
        beginRidden();
        d.locked(0, 7, 0);
        d.locked(0, 6, 0);
        d.pass(51);
        is("20 minutes of grace", 1, d.rider(0, 3));
        is("none for another ride", 21, d.rider(1, 3));
        d.unlocked(0, 2, 51);
        d.pass(31);
        is("none for who rides it then", 1, d.rider(2, 3));
        is("the first ride keeps its cost", 1, d.rider(0, 3));
        d.locked(0, 0, 82);
        d.unlocked(0, 0, 82);
        d.pass(31);
        is("none for his next ride", 2, d.rider(0, 3));
        d.locked(0, 7, 113);
        is("grace at the end of it", 1, d.rider(0, 3));
    }

    private static void faultsCountByRiders() {
        for (int rider = 0; rider < 10; rider++) {
            begin();
            d.faulty(0, rider, 0);
            d.pass(1);
            d.faulty(0, rider, 1);
            is("twice by rider " + rider, 0, d.cycle(0, 2));
            d.faulty(1, (rider + 1) % 10, 1);
            is("another cycle", 0, d.cycle(0, 2) + d.cycle(1, 2));
            d.faulty(0, (rider + 1) % 10, 1);
            is("and by another one", 1, d.cycle(0, 2));
            d.faulty(0, (rider + 5) % 10, 1);
            is("and by a third one", 1, d.cycle(0, 2));
            is("none is odd", 0, d.odd());
        }
        begin();
        for (int rider = 0; rider < 10; rider++) {
            d.faulty(0, rider, 0);
        }
        is("by all ten", 1, d.cycle(0, 2));
        d.mend(0);
        is("mended of all ten", 0, d.cycle(0, 2));
        d.pass(1);
        d.faulty(0, 9, 1);
        is("one behind that", 0, d.cycle(0, 2));
    }

    private static void faultsInEachState() {
        begin();
        d.take(0);
        d.unlocked(1, 3, 0);
        d.put(3, 1);
        for (int cycle = 0; cycle < 4; cycle++) {
            d.faulty(cycle, 3, 0);
            is("one fault of cycle " + cycle, 0, d.cycle(cycle, 2));
            d.faulty(cycle, 4, 0);
            is("two faults of cycle " + cycle, 1, d.cycle(cycle, 2));
        }
        is("none is odd", 0, d.odd());
        is("the van keeps it", WheelDocks.VAN, d.cycle(0, 0));
        is("he rides it on", 3, d.cycle(1, 1));
        is("the store keeps it", WheelDocks.STORE, d.cycle(2, 0));
        is("it stays docked", 1, d.cycle(3, 1));
        d.locked(1, 2, 0);
        is("ridden and blocked it can be locked", 2, d.cycle(1, 1));
        d.unlocked(1, 3, 0);
        is("the same unlock is not heard again", WheelDocks.DOCKED, d.cycle(1, 0));
        d.unlocked(1, 5, 0);
        is("docked and blocked it is not unlocked", WheelDocks.DOCKED, d.cycle(1, 0));
    }

    private static void mendInEachState() {
        begin();
        d.take(0);
        d.unlocked(1, 3, 0);
        d.put(3, 1);
        for (int cycle = 0; cycle < 4; cycle++) {
            d.faulty(cycle, 3, 0);
            d.faulty(cycle, 4, 0);
        }
        yes("in the van", d.mend(0));
        no("ridden", d.mend(1));
        yes("in the store", d.mend(2));
        yes("docked", d.mend(3));
        is("in the van mended", 0, d.cycle(0, 2));
        is("ridden not", 1, d.cycle(1, 2));
        is("in the store mended", 0, d.cycle(2, 2));
        is("docked mended", 0, d.cycle(3, 2));
        is("one is odd", 1, d.odd());
        yes("without faults", d.mend(3));
        is("which is not odd", 1, d.odd());
    }

    private static void mendBetweenFaults() {
        begin();
        d.faulty(0, 1, 0);
        d.mend(0);
        d.faulty(0, 2, 0);
        is("one ahead of mend and one behind it", 0, d.cycle(0, 2));
        d.pass(1);
        d.faulty(0, 1, 1);
        is("behind a mend the first one counts anew", 1, d.cycle(0, 2));
        d.mend(0);
        d.mend(1);
        d.faulty(1, 1, 1);
        d.mend(0);
        d.faulty(1, 2, 1);
        is("a mend of another cycle mends none", 1, d.cycle(1, 2));
    }

    private static void priceFromThenOn() {
        begin();
        d.unlocked(0, 0, 0);
        d.price(0);
        d.unlocked(1, 1, 0);
        d.price(99);
        d.pass(31);
        is("1 at first", 1, d.rider(0, 3));
        is("0 then", 0, d.rider(1, 3));
        d.unlocked(0, 2, 31);
        d.pass(31);
        is("99 then, for who rides it next", 99, d.rider(2, 3));
        is("an ended ride keeps its price", 1, d.rider(0, 3));
        d.price(2);
        is("a ride that goes on keeps its price", 99, d.rider(2, 3));
        d.locked(0, 7, 62);
        is("also with grace", 0, d.rider(2, 3));
        d.pass(10);
        is("and above it", 99, d.rider(2, 3));
        d.unlocked(0, 3, 72);
        d.pass(31);
        is("the next ride has its own price and no grace", 2, d.rider(3, 3));
    }

    private static void promiseWithMorePlacesThanPromised() {
        for (int places = 0; places <= 11; places++) {
            fresh();
            d.docks(6, places);
            for (int rider = 0; rider < 10; rider++) {
                boolean promised = rider < places;
                CHECK.same("promise to " + rider + " of " + places, "" + promised, "" + d.promise(rider, 6));
                is("promised to " + rider, promised ? 6 : WheelDocks.NONE, d.rider(rider, 4));
            }
            is("promised there", Math.min(places, 10), d.station(6, 3));
            is("free places are as many", places, d.station(6, 2));
            is("odd ones", Math.max(0, 10 - places), d.odd());
        }
        fullStation(2);
        no("promise where it is full", d.promise(0, 0));
        d.unlocked(0, 5, 0);
        yes("promise of the place that was left", d.promise(0, 0));
        no("and no other one", d.promise(1, 0));
    }

    private static void promiseCountsTheOwnOne() {
        fresh();
        d.docks(1, 1);
        yes("the only place", d.promise(3, 1));
        no("his own one there is counted", d.promise(3, 1));
        d.docks(1, 2);
        yes("with a second place he is promised anew", d.promise(3, 1));
        is("one place", 1, d.station(1, 3));
        yes("the second place is another one's", d.promise(4, 1));
        no("both are counted", d.promise(3, 1));
        no("for the other one too", d.promise(4, 1));
    }

    private static void promiseInPlaceOfAnother() {
        fresh();
        d.docks(1, 1);
        d.docks(2, 1);
        yes("one", d.promise(3, 1));
        yes("another one in its place", d.promise(3, 2));
        is("none there any more", 0, d.station(1, 3));
        is("one here", 1, d.station(2, 3));
        is("it is here", 2, d.rider(3, 4));
        yes("the first one is left to others", d.promise(4, 1));
        no("he can't go back", d.promise(3, 1));
        is("he keeps the second one", 2, d.rider(3, 4));
    }

    private static void promiseForFifteenMinutes() {
        begin();
        d.pass(5);
        d.docks(1, 1);
        d.promise(3, 1);
        for (int passed = 0; passed <= 16; passed++) {
            boolean holds = passed < 15;
            is("promised behind " + passed, holds ? 1 : WheelDocks.NONE, d.rider(3, 4));
            is("there behind " + passed, holds ? 1 : 0, d.station(1, 3));
            d.pass(1);
        }
        begin();
        d.docks(1, 1);
        d.promise(3, 1);
        d.pass(14);
        no("14 minutes later another one has none", d.promise(4, 1));
        d.pass(1);
        yes("15 minutes later he has one", d.promise(4, 1));
    }

    private static void promiseAnewForFifteenMore() {
        fresh();
        d.docks(1, 2);
        d.promise(3, 1);
        d.pass(10);
        d.promise(3, 1);
        d.pass(14);
        is("14 minutes behind the second one", 1, d.rider(3, 4));
        d.pass(1);
        is("15 minutes behind it", WheelDocks.NONE, d.rider(3, 4));
        yes("an ended one does not count", d.promise(3, 1));
        yes("nor for the second place", d.promise(4, 1));
    }

    private static void refusedPromiseLeavesTheOldOne() {
        fresh();
        d.docks(1, 1);
        d.promise(3, 1);
        d.pass(10);
        no("at the same station", d.promise(3, 1));
        no("at another one", d.promise(3, 2));
        is("the old one stays", 1, d.rider(3, 4));
        d.pass(4);
        is("to its 14th minute", 1, d.rider(3, 4));
        d.pass(1);
        is("not to its 15th", WheelDocks.NONE, d.rider(3, 4));
    }

    private static void endedPromiseIsNone() {
        for (int minutes = 14; minutes <= 15; minutes++) {
            beginRidden();
            d.docks(1, 2);
            d.promise(0, 1);
            d.promise(5, 1);
            d.docks(1, 0);
            d.pass(minutes);
            d.locked(0, 1, minutes);
            is("credit " + minutes + " minutes later", minutes == 14 ? 100 : 0, d.rider(0, 2));
            d.docks(1, 1);
            d.locked(1, 1, minutes);
            is("another one's promise " + minutes + " minutes later",
                    minutes == 14 ? WheelDocks.RIDDEN : WheelDocks.DOCKED, d.cycle(1, 0));
        }
        beginRidden();
        d.docks(1, 1);
        d.promise(5, 1);
        d.pass(20);
        d.locked(0, 1, 14);
        is("told late, of its 14th minute", WheelDocks.RIDDEN, d.cycle(0, 0));
        d.locked(0, 1, 15);
        is("told late, of its 15th minute", WheelDocks.DOCKED, d.cycle(0, 0));
    }

    private static void promiseOutlivesPlaces() {
        beginRidden();
        d.promise(0, 1);
        d.docks(1, 0);
        is("promised without a place", 1, d.rider(0, 4));
        is("one there", 1, d.station(1, 3));
        is("no free place", 0, d.station(1, 2));
        d.docks(1, 1);
        d.put(5, 1);
        is("promised at a full station", 1, d.rider(0, 4));
        d.locked(0, 1, 0);
        is("the lock does not bite", WheelDocks.RIDDEN, d.cycle(0, 0));
        is("which is compensated", 100, d.rider(0, 2));
    }

    /** Of two like towns one hears of what cannot be so: beside what is odd, both are one as the other. */
    private static void oddChangesNothingElse() {
        for (int later = 0; later <= 20; later += 20) {
            town(later);
            String apart = Picture.of(d);
            int odd = d.odd();
            town(0);
            tellOddOnes();
            if (later > 0) {
                d.pass(later);
            }
            is("odd ones", odd + 14, d.odd());
            CHECK.same("beside what is odd", apart, Picture.of(d).replace("odd: " + d.odd(), "odd: " + odd));
        }
    }

    private static void town(int later) {
        beginRidden();
        d.put(2, 1);
        d.put(3, 1);
        d.take(3);
        d.put(4, 2);
        d.faulty(4, 1, 0);
        d.faulty(4, 2, 0);
        d.faulty(0, 3, 0);
        d.faulty(0, 4, 0);
        d.promise(0, 3);
        d.promise(7, 1);
        d.pass(5);
        if (later > 0) {
            d.pass(later);
        }
    }

    private static void tellOddOnes() {
        no("put of a docked one", d.put(2, 0));
        no("put of a ridden one", d.put(1, 0));
        no("put without a place", d.put(9, 7));
        no("take from the store", d.take(9));
        no("take from the van", d.take(3));
        no("take of a ridden one", d.take(0));
        yes("unlocked in the store", d.unlocked(9, 6, 5));
        yes("unlocked in the van", d.unlocked(3, 6, 5));
        yes("unlocked, blocked", d.unlocked(4, 6, 5));
        yes("unlocked by the same one", d.unlocked(0, 0, 5));
        yes("locked, docked", d.locked(4, 3, 5));
        yes("locked, in the store", d.locked(9, 3, 5));
        no("mend of a ridden one", d.mend(0));
        no("promise without a place", d.promise(0, 7));
    }
}
