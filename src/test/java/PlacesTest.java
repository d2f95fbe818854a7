/** The section "Nearest places" with the promises 2 and 17 to 19: ways, the nearest place and the van's plan. */
public final class PlacesTest extends Cases {
    public static void main(String[] args) {
        allLieAtNoughtAtFirst();
        toldForAllTime();
        wayUpAndDown();
        wayAtTheCorners();
        wayIsRoundedDown();
        nearestOtherStation();
        nearestWithAFreePlace();
        nearestOfEqualWays();
        nearestByClimb();
        nearestByTheLastBits();
        planOfAHalfRoundedDown();
        planWithoutOneAboveOrLacking();
        planOfTheMost();
        planOfTheLowest();
        planOfTooManyCycles();
        CHECK.end("PlacesTest");
    }

    private static void allLieAtNoughtAtFirst() {
        fresh();
        for (int station = 0; station < 8; station++) {
            for (int other = 0; other < 8; other++) {
                is("way " + station + ", " + other, 0, d.way(station, other));
            }
        }
        d.docks(7, 1);
        d.docks(6, 1);
        is("all ways are 0: the lowest one", 6, d.nearest(0));
        is("other than itself", 7, d.nearest(6));
    }

    private static void toldForAllTime() {
        fresh();
        d.docks(1, 1);
        d.docks(2, 1);
        d.lies(1, 5, 0, 0);
        d.lies(2, 6, 0, 0);
        is("near", 1, d.nearest(0));
        d.pass(600);
        is("a way later", 500, d.way(0, 1));
        d.lies(1, 7, 0, 0);
        is("told anew", 700, d.way(0, 1));
        is("the other one is near", 2, d.nearest(0));
        is("none has moved beside", 600, d.way(0, 2));
        d.lies(1, 0, 0, 0);
        is("back again", 0, d.way(0, 1));
    }

    private static void wayUpAndDown() {
        fresh();
        d.lies(0, 10, 10, 50);
        for (int height = 0; height <= 99; height++) {
            d.lies(1, 13, 6, height);
            is("way to height " + height, 500 + (height > 50 ? 200 * (height - 50) : 0), d.way(0, 1));
            is("way from height " + height, 500 + (height < 50 ? 200 * (50 - height) : 0), d.way(1, 0));
        }
    }

    private static void wayAtTheCorners() {
        fresh();
        d.lies(1, 99, 99, 99);
        is("up across all", 33800, d.way(0, 1));
        is("down across all", 14000, d.way(1, 0));
        d.lies(2, 99, 0, 0);
        d.lies(3, 0, 99, 0);
        is("along x", 9900, d.way(0, 2));
        is("back along x", 9900, d.way(2, 0));
        is("along y", 9900, d.way(0, 3));
        is("back along y", 9900, d.way(3, 0));
        is("across", 14000, d.way(2, 3));
        is("up along y", 9900 + 19800, d.way(2, 1));
        d.lies(4, 0, 0, 99);
        is("straight up", 19800, d.way(0, 4));
        is("straight down", 0, d.way(4, 0));
        is("to itself", 0, d.way(1, 1));
        is("at one height", 14000, d.way(4, 1));
    }

    private static void wayIsRoundedDown() {
        fresh();
        int[][] ways = {
            {1, 0, 100}, {1, 1, 141}, {2, 1, 223}, {2, 2, 282}, {3, 0, 300}, {3, 1, 316}, {3, 2, 360},
            {3, 3, 424}, {4, 3, 500}, {12, 5, 1300}, {99, 1, 9900}, {99, 98, 13930}, {70, 70, 9899},
        };
        for (int[] way : ways) {
            d.lies(1, way[0], way[1], 0);
            is("way of " + way[0] + ", " + way[1], way[2], d.way(0, 1));
            d.lies(1, way[1], way[0], 1);
            is("way up of " + way[1] + ", " + way[0], way[2] + 200, d.way(0, 1));
        }
    }

    private static void nearestOtherStation() {
        fresh();
        for (int station = 0; station < 8; station++) {
            d.lies(station, 11 * station, 0, 0);
            d.docks(station, 1);
        }
        for (int station = 0; station < 8; station++) {
            is("near " + station, station == 0 ? 1 : station - 1, d.nearest(station));
        }
        for (int station = 0; station < 8; station++) {
            d.docks(station, 0);
        }
        d.docks(5, 20);
        for (int station = 0; station < 8; station++) {
            is("the only one, of " + station, station == 5 ? WheelDocks.NONE : 5, d.nearest(station));
        }
    }

    private static void nearestWithAFreePlace() {
        fresh();
        is("none has places", WheelDocks.NONE, d.nearest(0));
        for (int station = 0; station < 8; station++) {
            d.docks(station, 1);
            d.put(station, station);
            d.lies(station, station, 0, 0);
        }
        is("all are full", WheelDocks.NONE, d.nearest(0));
        d.docks(1, 0);
        is("one above its places is none", WheelDocks.NONE, d.nearest(0));
        d.docks(7, 2);
        is("the far one is free", 7, d.nearest(0));
        d.unlocked(3, 0, 0);
        is("a nearer one is free", 3, d.nearest(0));
        d.promise(4, 3);
        is("promised it is free still", 3, d.nearest(0));
        d.take(2);
        is("the nearest one is free", 2, d.nearest(0));
        d.locked(3, 2, 0);
        is("that is full again", 3, d.nearest(0));
    }

    private static void nearestOfEqualWays() {
        int[][] five = {{50, 55, 0}, {55, 50, 0}, {45, 50, 0}, {50, 45, 0}, {53, 54, 0}, {46, 47, 0}, {51, 50, 2}};
        for (int first = 0; first < five.length; first++) {
            for (int second = 0; second < five.length; second++) {
                fresh();
                d.docks(2, 1);
                d.docks(6, 1);
                d.lies(4, 50, 50, 0);
                d.lies(2, five[first][0], five[first][1], five[first][2]);
                d.lies(6, five[second][0], five[second][1], five[second][2]);
                is("of equal ways " + first + " and " + second, 2, d.nearest(4));
                d.docks(0, 1);
                d.lies(0, 50, 56, 0);
                is("a lower, farther one", 2, d.nearest(4));
                d.lies(0, 50, 54, 0);
                is("a lower, nearer one", 0, d.nearest(4));
            }
        }
    }

    private static void nearestByClimb() {
        fresh();
        d.docks(1, 1);
        d.docks(2, 1);
        d.lies(0, 0, 0, 10);
        d.lies(1, 10, 0, 11);
        d.lies(2, 13, 0, 10);
        is("one up is two along", 1, d.nearest(0));
        d.lies(2, 12, 0, 10);
        is("equal ways", 1, d.nearest(0));
        d.lies(2, 11, 0, 10);
        is("the flat one", 2, d.nearest(0));
        d.lies(2, 11, 0, 0);
        is("down counts nothing", 2, d.nearest(0));
        d.lies(1, 10, 0, 0);
        is("both down", 1, d.nearest(0));
    }

    /** Ways of which way() answers the same, yet one is less as a double: no two of all ways differ by less. */
    private static void nearestByTheLastBits() {
        fresh();
        d.docks(3, 1);
        d.docks(5, 1);
        d.lies(3, 99, 99, 0);
        d.lies(5, 50, 49, 35);
        is("two answers are one", d.way(0, 3), d.way(0, 5));
        is("the root of 4901 and 70 is less than that of 19602", 5, d.nearest(0));
        d.lies(3, 50, 49, 35);
        d.lies(5, 99, 99, 0);
        is("changed about", 3, d.nearest(0));
        d.lies(5, 49, 50, 35);
        is("equal ones", 3, d.nearest(0));
        d.lies(3, 99, 1, 0);
        d.lies(5, 99, 0, 0);
        is("one answer", d.way(0, 3), d.way(0, 5));
        is("99 is less than the root of 9802", 5, d.nearest(0));
    }

    /** A new object of which station s has places[s] places and docked[s] cycles. */
    private static void filled(int[] places, int[] docked) {
        fresh();
        int cycle = 0;
        for (int station = 0; station < places.length; station++) {
            d.docks(station, 20);
            for (int i = 0; i < docked[station]; i++) {
                d.put(cycle, station);
                cycle++;
            }
            d.docks(station, places[station]);
        }
    }

    private static void planIs(int want, int[] places, int[] docked) {
        filled(places, docked);
        is("plan of places " + java.util.Arrays.toString(places) + ", cycles " + java.util.Arrays.toString(docked),
                want, d.plan());
    }

    private static void planOfAHalfRoundedDown() {
        int none = WheelDocks.NONE;
        planIs(1, new int[] {1, 2}, new int[] {1, 0});
        planIs(none, new int[] {1, 1}, new int[] {1, 0});
        planIs(none, new int[] {2, 2}, new int[] {1, 0});
        planIs(1, new int[] {2, 2}, new int[] {2, 0});
        planIs(none, new int[] {3, 3}, new int[] {1, 0});
        planIs(1, new int[] {3, 3}, new int[] {2, 0});
        planIs(none, new int[] {3, 3}, new int[] {2, 1});
        planIs(none, new int[] {20, 20}, new int[] {10, 9});
        planIs(1, new int[] {20, 20}, new int[] {11, 9});
        planIs(none, new int[] {20, 19}, new int[] {11, 9});
        planIs(1, new int[] {20, 19}, new int[] {11, 8});
    }

    private static void planWithoutOneAboveOrLacking() {
        int none = WheelDocks.NONE;
        planIs(none, new int[] {0, 0}, new int[] {0, 0});
        planIs(none, new int[] {5, 7}, new int[] {0, 0});
        planIs(none, new int[] {5, 7}, new int[] {3, 4});
        planIs(none, new int[] {4, 6}, new int[] {2, 3});
        planIs(none, new int[] {4, 6}, new int[] {2, 2});
        planIs(none, new int[] {4, 6}, new int[] {3, 3});
        planIs(none, new int[] {4, 0}, new int[] {3, 0});
        planIs(none, new int[] {4, 1}, new int[] {3, 0});
        planIs(none, new int[] {0, 0, 0, 0, 0, 0, 0, 1}, new int[] {0, 0, 0, 0, 0, 0, 0, 1});
    }

    private static void planOfTheMost() {
        planIs(12, new int[] {4, 4, 8, 4}, new int[] {3, 4, 0, 0});
        planIs(10, new int[] {8, 4, 4, 4}, new int[] {0, 4, 3, 0});
        planIs(76, new int[] {2, 2, 2, 2, 2, 2, 4, 2}, new int[] {0, 0, 2, 1, 0, 0, 0, 3});
        planIs(67, new int[] {2, 2, 2, 2, 2, 2, 2, 4}, new int[] {0, 0, 2, 1, 0, 0, 3, 0});
        planIs(7, new int[] {2, 0, 0, 0, 0, 0, 0, 2}, new int[] {2, 0, 0, 0, 0, 0, 0, 0});
        planIs(70, new int[] {2, 0, 0, 0, 0, 0, 0, 2}, new int[] {0, 0, 0, 0, 0, 0, 0, 2});
        // More cycles, yet fewer above: it is what is above a half that counts.
        planIs(12, new int[] {20, 2, 6}, new int[] {11, 3, 0});
    }

    private static void planOfTheLowest() {
        planIs(1, new int[] {4, 4, 4, 4}, new int[] {4, 0, 4, 0});
        planIs(10, new int[] {4, 4, 4, 4}, new int[] {0, 4, 0, 4});
        planIs(23, new int[] {0, 4, 4, 4, 4}, new int[] {0, 2, 3, 1, 1});
        planIs(12, new int[] {0, 1, 4, 5, 5, 1}, new int[] {0, 1, 0, 0, 0, 1});
    }

    private static void planOfTooManyCycles() {
        planIs(1, new int[] {0, 2}, new int[] {1, 0});
        planIs(10, new int[] {2, 0}, new int[] {0, 20});
        planIs(21, new int[] {20, 20, 1}, new int[] {10, 0, 20});
        filled(new int[] {4, 4}, new int[] {3, 0});
        d.take(0);
        is("in the van it is not there", WheelDocks.NONE, d.plan());
        d.put(0, 0);
        d.unlocked(0, 1, 0);
        is("ridden it is not there", WheelDocks.NONE, d.plan());
        d.locked(0, 0, 0);
        is("locked it is", 1, d.plan());
    }
}
