/** The boundary cases of the document's "Terms" that stand before the tick, a test for each sentence. */
public final class BoundaryTermsTest {
    private static final int[] FIRST_READINGS = {2000, 2200, 1500};

    public static void main(String[] args) {
        Check check = new Check();
        check.sentence("CHANNELS and TRAINS are 0 .. 3, PARAMETERS 0 .. 2", () -> numbers(check));
        check.sentence("A READING of a channel's parameter is 0 .. 4095", () -> readings(check));
        check.sentence("at first, as if sensed before the first tick, the readings are 2000, 2200 and 1500",
                () -> firstReadings(check));
        check.sentence("The TIME is how many ticks there were; tick n is the one that makes it n", () -> time(check));
        check.sentence("an event has the time as it is then", () -> timeOfEvents(check));
        check.sentence("THE LIMIT of parameter 0 is 3000, of parameter 1 1200", () -> fixedLimits(check));
        check.sentence("That of parameter 2 follows from the channel's other two readings x (power) and y (pressure), "
                + "whatever they are", () -> limitsOfAnyReadings(check));
        check.sentence("between the points 0: 3600, 1000: 3300, 2000: 2900, 3000: 2200, 4000: 1500 by x on the "
                + "straight line between two of them", () -> pointsAndBesideThem(check));
        check.sentence("1500 above 4000", () -> aboveTheLastPoint(check));
        check.sentence("rounded down", () -> roundedDown(check));
        check.sentence("less a quarter of what y is below 2000", () -> wholeQuarters(check));
        check.sentence("(nothing, if it is not)", () -> pressureNotBelow(check));
        check.sentence("that quarter rounded up", () -> quarterRoundedUp(check));
        check.sentence("A reading is BEYOND if it is above the limit, for parameter 1 below it", () -> beyond(check));
        check.sentence("it is INSIDE if it is below the limit less 40, for parameter 1 above the limit and 40",
                () -> inside(check));
        check.finish();
    }

    private static void numbers(Check check) {
        check.takesOnly("channel of sense", 0, 3, n -> new TripGuard(1).sense(n, 0, 1));
        check.takesOnly("channel of limit", 0, 3, n -> new TripGuard(1).limit(n, 0));
        check.takesOnly("channel of bypass", 0, 3, n -> new TripGuard(1).bypass(n));
        check.takesOnly("channel of test", 0, 3, n -> new TripGuard(1).test(n, 0));
        check.takesOnly("channel of fault", 0, 3, n -> new TripGuard(1).fault(n, 0, 0));
        check.takesOnly("channel of channel", 0, 3, n -> new TripGuard(1).channel(n, 0));
        check.takesOnly("channel of votes", 0, 3, n -> new TripGuard(1).votes(0, n));
        check.takesOnly("train of reset", 0, 3, n -> afterATrip().reset(n));
        check.takesOnly("train of fault", 0, 3, n -> new TripGuard(1).fault(0, n, 0));
        check.takesOnly("train of votes", 0, 3, n -> new TripGuard(1).votes(n, 0));
        check.takesOnly("train of demands", 0, 3, n -> new TripGuard(1).demands(n));
        check.takesOnly("train of latched", 0, 3, n -> new TripGuard(1).latched(n));
        check.takesOnly("parameter of sense", 0, 2, n -> new TripGuard(1).sense(0, n, 1));
        check.takesOnly("parameter of limit", 0, 2, n -> new TripGuard(1).limit(0, n));
        check.takesOnly("parameter of test", 0, 2, n -> new TripGuard(1).test(0, n));
    }

    /** All trains have tripped, and have no demand any more. */
    private static TripGuard afterATrip() {
        TripGuard x = new TripGuard(1);
        for (int t = 0; t < 4; t++) {
            x.fault(0, t, 0xFFFFFF);
            x.fault(1, t, 0xFFFFFF);
        }
        Check.ticks(x, 3);
        return x;
    }

    private static void readings(Check check) {
        for (int c = 0; c < 4; c++) {
            for (int p = 0; p < 3; p++) {
                int channel = c;
                int parameter = p;
                for (int value : new int[] {0, 1, 4094, 4095}) {
                    new TripGuard(1).sense(c, p, value);
                }
                for (int value : new int[] {-1, 4096, -4095, 8191, 65536, Integer.MIN_VALUE, Integer.MAX_VALUE}) {
                    check.badArgument("sense(" + c + ", " + p + ", " + value + ")",
                            () -> new TripGuard(1).sense(channel, parameter, value));
                }
            }
        }
        check.same("the limit by a power of 0", limitAt(0, 2000), 3600);
        check.same("the limit by a power of 4095", limitAt(4095, 2000), 1500);
        check.same("the limit by a pressure of 0", limitAt(2000, 0), 2400);
        check.same("the limit by a pressure of 4095", limitAt(2000, 4095), 2900);
    }

    private static void firstReadings(Check check) {
        for (int c = 0; c < 4; c++) {
            check.same("the limit that follows from them", new TripGuard(1).limit(c, 2), 2900);
            for (int p = 0; p < 3; p++) {
                check.same("400 up from it", wrongAfter(c, p, FIRST_READINGS[p] + 400), 0);
                check.same("401 up from it", wrongAfter(c, p, FIRST_READINGS[p] + 401), 1 << p);
                check.same("400 down from it", wrongAfter(c, p, FIRST_READINGS[p] - 400), 0);
                check.same("401 down from it", wrongAfter(c, p, FIRST_READINGS[p] - 401), 1 << p);
            }
        }
        TripGuard x = new TripGuard(1);
        Check.ticks(x, 13);
        check.same("new in tick 1, they are right up to tick 13", x.figure(1), 0);
    }

    /** The wrong bits of a channel in tick 2, its parameter having been as at first in tick 1. */
    private static int wrongAfter(int channel, int parameter, int value) {
        TripGuard x = new TripGuard(8);
        x.tick();
        x.sense(channel, parameter, value);
        x.tick();
        return x.channel(channel, 1);
    }

    private static void time(Check check) {
        TripGuard x = new TripGuard(1);
        check.same("before any tick", x.figure(0), 0);
        for (int n = 1; n <= 255; n++) {
            x.tick();
            check.same("after tick " + n, x.figure(0), n);
        }
        TripGuard y = new TripGuard(1);
        Check.ticks(y, 511);
        check.same("the 512th call, after 511 ticks", y.figure(0), 511);
    }

    private static void timeOfEvents(Check check) {
        TripGuard x = new TripGuard(1);
        x.bypass(3);
        check.same("before any tick", x.event(0, 0), 0);
        x.sense(0, 0, 0);
        x.tick();
        check.same("in tick 1", x.event(1, 0), 1);
        x.restore();
        check.same("behind tick 1", x.event(2, 0), 1);
        x.sense(0, 0, 50);
        x.tick();
        check.same("in tick 2", x.event(3, 0), 2);
        check.same("the one before is as it was", x.event(1, 0), 1);
        TripGuard y = new TripGuard(1);
        Check.ticks(y, 300);
        y.bypass(0);
        check.same("behind tick 300: the time, not its lowest byte", y.event(y.figure(1) - 1, 0), 300);
    }

    private static int limitAt(int power, int pressure) {
        TripGuard x = new TripGuard(1);
        x.sense(3, 0, power);
        x.sense(3, 1, pressure);
        return x.limit(3, 2);
    }

    private static void fixedLimits(Check check) {
        int[] values = {0, 49, 1200, 2000, 3000, 4000, 4095};
        for (int c = 0; c < 4; c++) {
            for (int value : values) {
                TripGuard x = new TripGuard(1);
                for (int p = 0; p < 3; p++) {
                    x.sense(c, p, value);
                }
                check.same("limit(" + c + ", 0) with all at " + value, x.limit(c, 0), 3000);
                check.same("limit(" + c + ", 1) with all at " + value, x.limit(c, 1), 1200);
            }
        }
    }

    private static void limitsOfAnyReadings(Check check) {
        int[][] due = {{49, 2200, 3585}, {4001, 2200, 1500}, {2000, 49, 2412}, {2000, 4001, 2900}, {0, 0, 3100},
            {4095, 0, 1000}, {4095, 4095, 1500}, {0, 4095, 3600}};
        for (int[] d : due) {
            check.same("limit by wrong readings " + d[0] + ", " + d[1], limitAt(d[0], d[1]), d[2]);
        }
        TripGuard x = new TripGuard(1);
        x.sense(0, 0, 4095);
        x.sense(0, 1, 0);
        x.sense(0, 2, 1000);
        x.tick();
        check.same("at the limit by wrong readings", x.channel(0, 2), 0);
        x.sense(0, 2, 1001);
        x.tick();
        check.same("beyond the limit by wrong readings", x.channel(0, 2), 4);
        check.same("by its own channel's readings alone", x.limit(1, 2), 2900);
        x.sense(0, 2, 0);
        check.same("not by its own reading", x.limit(0, 2), 1000);
    }

    private static void pointsAndBesideThem(Check check) {
        int[][] due = {{0, 3600}, {10, 3597}, {500, 3450}, {990, 3303}, {1000, 3300}, {1010, 3296}, {1500, 3100},
            {1990, 2904}, {2000, 2900}, {2010, 2893}, {2500, 2550}, {2990, 2207}, {3000, 2200}, {3010, 2193},
            {3500, 1850}, {3990, 1507}, {4000, 1500}};
        for (int[] d : due) {
            check.same("limit by power " + d[0], limitAt(d[0], 2000), d[1]);
        }
    }

    private static void aboveTheLastPoint(Check check) {
        for (int x = 4000; x <= 4095; x++) {
            check.same("limit by power " + x, limitAt(x, 2000), 1500);
        }
    }

    private static void roundedDown(Check check) {
        int[][] due = {{1, 3599}, {2, 3599}, {3, 3599}, {4, 3598}, {999, 3300}, {998, 3300}, {997, 3300}, {996, 3301},
            {1001, 3299}, {1002, 3299}, {1003, 3298}, {1999, 2900}, {1998, 2900}, {1997, 2901}, {2001, 2899},
            {2002, 2898}, {2999, 2200}, {2998, 2201}, {3001, 2199}, {3999, 1500}, {3998, 1501}};
        for (int[] d : due) {
            check.same("limit by power " + d[0], limitAt(d[0], 2000), d[1]);
        }
        check.same("each is rounded by itself", limitAt(1, 1999), 3598);
        check.same("each is rounded by itself, the line a little above", limitAt(999, 1999), 3299);
    }

    private static void wholeQuarters(Check check) {
        int[][] due = {{1996, 1}, {1992, 2}, {1200, 200}, {1000, 250}, {4, 499}, {0, 500}};
        for (int[] d : due) {
            check.same("limit by pressure " + d[0], limitAt(2000, d[0]), 2900 - d[1]);
            check.same("limit by pressure " + d[0] + " behind the last point", limitAt(4095, d[0]), 1500 - d[1]);
        }
    }

    private static void pressureNotBelow(Check check) {
        for (int y : new int[] {2000, 2001, 2003, 2004, 2005, 2400, 4000, 4095}) {
            check.same("limit by pressure " + y, limitAt(2000, y), 2900);
        }
    }

    private static void quarterRoundedUp(Check check) {
        int[][] due = {{1999, 1}, {1998, 1}, {1997, 1}, {1995, 2}, {1994, 2}, {1993, 2}, {1991, 3}, {5, 499}, {3, 500},
            {2, 500}, {1, 500}};
        for (int[] d : due) {
            check.same("limit by pressure " + d[0], limitAt(2000, d[0]), 2900 - d[1]);
        }
    }

    /** The bistables that one tick sets with these readings, the debounce being 1. */
    private static int setBy(int channel, int power, int pressure, int temperature) {
        TripGuard x = new TripGuard(1);
        x.sense(channel, 0, power);
        x.sense(channel, 1, pressure);
        x.sense(channel, 2, temperature);
        x.tick();
        return x.channel(channel, 2);
    }

    private static void beyond(Check check) {
        for (int c = 0; c < 4; c++) {
            check.same("power below the limit", setBy(c, 2999, 2200, 1500), 0);
            check.same("power at the limit", setBy(c, 3000, 2200, 1500), 0);
            check.same("power above the limit", setBy(c, 3001, 2200, 1500), 1);
            check.same("pressure above the limit", setBy(c, 2000, 1201, 1500), 0);
            check.same("pressure at the limit", setBy(c, 2000, 1200, 1500), 0);
            check.same("pressure below the limit", setBy(c, 2000, 1199, 1500), 2);
            check.same("temperature below the limit", setBy(c, 2000, 2200, 2899), 0);
            check.same("temperature at the limit", setBy(c, 2000, 2200, 2900), 0);
            check.same("temperature above the limit", setBy(c, 2000, 2200, 2901), 4);
            check.same("temperature at its lowest limit with right readings", setBy(c, 4000, 50, 1012), 3);
            check.same("temperature above its lowest limit with right readings", setBy(c, 4000, 50, 1013), 7);
        }
    }

    /** The bistable of a parameter after a reading that set it and then another one. */
    private static int setStill(int parameter, int first, int then) {
        TripGuard x = new TripGuard(1);
        x.sense(1, parameter, first);
        x.tick();
        x.sense(1, parameter, then);
        x.tick();
        return x.channel(1, 2) >> parameter;
    }

    private static void inside(Check check) {
        int[][] due = {{0, 3001, 3000, 1}, {0, 3001, 2961, 1}, {0, 3001, 2960, 1}, {0, 3001, 2959, 0},
            {0, 3001, 2958, 0}, {1, 1199, 1200, 1}, {1, 1199, 1239, 1}, {1, 1199, 1240, 1}, {1, 1199, 1241, 0},
            {1, 1199, 1242, 0}, {2, 2901, 2900, 1}, {2, 2901, 2861, 1}, {2, 2901, 2860, 1}, {2, 2901, 2859, 0},
            {2, 2901, 2858, 0}};
        for (int[] d : due) {
            check.same("parameter " + d[0] + " set by " + d[1] + ", then " + d[2], setStill(d[0], d[1], d[2]), d[3]);
        }
        check.same("the limit has moved up, 2901 is 39 below it", setWhenPowerBecomes(1900), 1);
        check.same("the limit has moved up, 2901 is 40 below it", setWhenPowerBecomes(1896), 1);
        check.same("the limit has moved up, 2901 is 41 below it", setWhenPowerBecomes(1895), 0);
    }

    /** The bistable of a temperature of 2901, set by a power of 2000, when the power has become another one. */
    private static int setWhenPowerBecomes(int power) {
        TripGuard x = new TripGuard(1);
        x.sense(2, 2, 2901);
        x.tick();
        x.sense(2, 0, power);
        x.tick();
        return x.channel(2, 2) >> 2;
    }
}
