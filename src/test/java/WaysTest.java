import java.math.BigDecimal;
import java.math.MathContext;

/** Promises 17 and 18 by every pair of differences: the root is the nearest double, ways are compared as doubles. */
public final class WaysTest {
    private static final int OBJECT_CALLS = 500;

    public static void main(String[] args) {
        Check check = new Check();
        everyDifference(check);
        floorOfWholeWays(check);
        tiesOfNearest(check);
        check.end("WaysTest");
    }

    private static void everyDifference(Check check) {
        WheelDocks docks = new WheelDocks();
        int calls = 0;
        for (int dx = 0; dx <= 99; dx++) {
            for (int dy = 0; dy <= 99; dy++) {
                if (calls + 6 > OBJECT_CALLS) {
                    docks = new WheelDocks();
                    calls = 0;
                }
                int climb = (dx * 37 + dy * 11) % 100;
                docks.lies(2, 0, 99, 0);
                docks.lies(5, dx, 99 - dy, climb);
                String name = "way by " + dx + ", " + dy + ", " + climb;
                int up = docks.way(2, 5);
                int down = docks.way(5, 2);
                check.same(name, "" + hundredfold(dx * dx + dy * dy, climb), "" + up);
                check.same(name + " back", "" + hundredfold(dx * dx + dy * dy, 0), "" + down);
                calls += 4;
            }
        }
    }

    private static int hundredfold(int square, int climb) {
        double root = new BigDecimal(square).sqrt(new MathContext(60)).doubleValue();
        return (int) Math.floor(100 * (root + 2.0 * climb));
    }

    private static void floorOfWholeWays(Check check) {
        for (int x = 0; x <= 99; x++) {
            int far = x;
            WheelDocks docks = new WheelDocks();
            docks.lies(1, x, 0, 0);
            check.due("a flat way of " + x, 100 * x, () -> docks.way(0, far == 0 ? 0 : 1));
        }
    }

    /** Stations 3 and 6 lie so that both ways differ in the last bits of a double alone, or not at all. */
    private static void tiesOfNearest(Check check) {
        for (int a = 0; a <= 99; a += 3) {
            for (int b = 0; b <= 99; b += 7) {
                for (int climb = 0; climb <= 40; climb += 5) {
                    nearestOfTwo(check, a, b, climb);
                }
            }
        }
        nearestOfTwo(check, 5, 0, 0);
        nearestOfTwo(check, 3, 4, 0);
    }

    private static void nearestOfTwo(Check check, int a, int b, int climb) {
        WheelDocks docks = new WheelDocks();
        docks.docks(3, 1);
        docks.docks(6, 1);
        docks.lies(3, b, a, climb);
        docks.lies(6, a, b, climb);
        check.due("of equal ways by " + a + ", " + b, 3, () -> docks.nearest(0));
        int third = Math.min(99, a + b);
        docks.lies(6, third, 0, 0);
        double first = Math.sqrt(a * a + b * b) + 2.0 * climb;
        int due = first <= (double) third ? 3 : 6;
        check.due("of ways by " + a + ", " + b + ", " + climb + " and " + third, due, () -> docks.nearest(0));
    }
}
