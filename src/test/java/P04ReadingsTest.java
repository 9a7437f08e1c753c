/** Promise 4, the first step of a tick: readings that are wrong, and the bistables. */
public final class P04ReadingsTest {
    public static void main(String[] args) {
        Check check = new Check();
        range(check);
        steps(check);
        stepsAreSeenFromWrongReadingsToo(check);
        notNew(check);
        edgesOfBeyond(check);
        edgesOfInside(check);
        debounce(check);
        aWrongReadingStartsTheCountAgain(check);
        aWrongReadingLeavesTheBistable(check);
        temperatureFollowsWrongReadings(check);
        orderOfEvents(check);
        check.finish();
    }

    private static void range(Check check) {
        int[][] given = {{0, 1}, {49, 1}, {50, 0}, {51, 0}, {3999, 0}, {4000, 0}, {4001, 1}, {4095, 1}};
        for (int[] g : given) {
            for (int p = 0; p < 3; p++) {
                TripGuard x = new TripGuard(8);
                x.sense(1, p, g[0]);
                check.same("tick with " + g[0] + " for " + p, x.tick(), g[1]);
                check.same("wrong with " + g[0] + " for " + p, x.channel(1, 1), g[1] << p);
                check.same("votes with " + g[0] + " for " + p, x.channel(1, 0), g[1] << p);
                check.same("set with " + g[0] + " for " + p, x.channel(1, 2), 0);
            }
        }
    }

    private static void steps(Check check) {
        TripGuard x = new TripGuard(8);
        x.sense(0, 2, 100);
        check.same("no tick before: any step is right", x.tick(), 0);
        x.sense(0, 2, 500);
        check.same("a step of 400", x.tick(), 0);
        x.sense(0, 2, 901);
        check.same("a step of 401", x.tick(), 1);
        check.same("the same again", x.tick(), 1);
        x.sense(0, 2, 501);
        check.same("400 down", x.tick(), 0);
        x.sense(0, 2, 100);
        check.same("401 down", x.tick(), 1);
        check.same("events", Check.events(x, 0), "3:1(0,2) 4:2(0,2) 6:1(0,2)");
    }

    private static void stepsAreSeenFromWrongReadingsToo(Check check) {
        TripGuard x = new TripGuard(8);
        x.tick();
        x.sense(3, 0, 2600);
        check.same("600 up", x.tick(), 1);
        x.sense(3, 0, 2000);
        check.same("600 down: wrong still, no event", x.tick(), 0);
        check.same("it is wrong", x.channel(3, 1), 1);
        x.sense(3, 0, 2400);
        check.same("400 up: right again", x.tick(), 1);
        check.same("events", Check.events(x, 0), "2:1(3,0) 4:2(3,0)");
    }

    private static void notNew(Check check) {
        TripGuard x = new TripGuard(8);
        for (int n = 1; n <= 13; n++) {
            check.same("tick " + n, x.tick(), 0);
        }
        check.same("tick 14", x.tick(), 12);
        check.same("an event of it", Check.events(x, 11), "14:1(3,2)");
        x.sense(0, 1, 2200);
        x.tick();
        check.same("tick 15, sensed again", x.channel(0, 1), 5);
        for (int n = 16; n <= 27; n++) {
            x.tick();
            check.same("tick " + n + ", the 12th or before", x.channel(0, 1), 5);
        }
        x.tick();
        check.same("tick 28, the 13th", x.channel(0, 1), 7);
        x.tick();
        check.same("tick 29, a later one", x.channel(0, 1), 7);
    }

    /** Whether one tick with these readings sets a bistable, the debounce being 1. */
    private static int setBits(int power, int pressure, int temperature) {
        TripGuard x = new TripGuard(1);
        x.sense(1, 0, power);
        x.sense(1, 1, pressure);
        x.sense(1, 2, temperature);
        x.tick();
        return x.channel(1, 2);
    }

    private static void edgesOfBeyond(Check check) {
        check.same("power at the limit", setBits(3000, 2200, 1500), 0);
        check.same("power above", setBits(3001, 2200, 1500), 1);
        check.same("pressure at the limit", setBits(2000, 1200, 1500), 0);
        check.same("pressure below", setBits(2000, 1199, 1500), 2);
        check.same("temperature at the limit", setBits(2000, 2200, 2900), 0);
        check.same("temperature above", setBits(2000, 2200, 2901), 4);
        check.same("temperature at the limit by pressure", setBits(2500, 1999, 2549), 0);
        check.same("temperature above the limit by pressure", setBits(2500, 1999, 2550), 4);
        check.same("all of them", setBits(3500, 1000, 2000), 7);
    }

    /** Whether a bistable that was set is still set when its reading has become value. */
    private static int stillSet(int parameter, int first, int value) {
        TripGuard x = new TripGuard(1);
        x.sense(2, parameter, first);
        x.tick();
        x.sense(2, parameter, value);
        int events = x.tick();
        int set = x.channel(2, 2) >> parameter;
        return events == 1 - set ? set : -1;
    }

    private static void edgesOfInside(Check check) {
        check.same("power 3000", stillSet(0, 3100, 3000), 1);
        check.same("power 2960", stillSet(0, 3100, 2960), 1);
        check.same("power 2959", stillSet(0, 3100, 2959), 0);
        check.same("pressure 1200", stillSet(1, 1100, 1200), 1);
        check.same("pressure 1240", stillSet(1, 1100, 1240), 1);
        check.same("pressure 1241", stillSet(1, 1100, 1241), 0);
        check.same("temperature 2900", stillSet(2, 3000, 2900), 1);
        check.same("temperature 2860", stillSet(2, 3000, 2860), 1);
        check.same("temperature 2859", stillSet(2, 3000, 2859), 0);
        TripGuard x = new TripGuard(1);
        x.sense(0, 2, 2901);
        x.tick();
        x.sense(0, 0, 1800);
        x.tick();
        check.same("the limit has moved up by 80", Check.events(x, 0), "1:3(0,2) 2:4(0,2)");
    }

    private static void debounce(Check check) {
        TripGuard x = new TripGuard(3);
        x.sense(0, 0, 3001);
        Check.ticks(x, 2);
        x.sense(0, 0, 3000);
        x.tick();
        x.sense(0, 0, 3001);
        Check.ticks(x, 2);
        check.same("two, one between, two", x.channel(0, 2), 0);
        x.tick();
        check.same("the third", x.channel(0, 2), 1);
        check.same("votes", x.channel(0, 0), 1);
        check.same("not wrong", x.channel(0, 1), 0);
        check.same("set stays set", x.tick(), 0);
        check.same("events", Check.events(x, 0), "6:3(0,0)");
        x.sense(0, 0, 2900);
        x.tick();
        check.same("votes no more", x.channel(0, 0), 0);
        x.sense(0, 0, 3001);
        Check.ticks(x, 2);
        check.same("it takes three again", x.channel(0, 2), 0);
        x.tick();
        check.same("and then it is set", x.channel(0, 2), 1);
    }

    private static void aWrongReadingStartsTheCountAgain(Check check) {
        TripGuard x = new TripGuard(3);
        x.sense(0, 0, 3100);
        Check.ticks(x, 2);
        x.sense(0, 0, 3501);
        x.tick();
        check.same("beyond, but wrong", x.channel(0, 2), 0);
        Check.ticks(x, 2);
        check.same("two ticks behind it", x.channel(0, 2), 0);
        x.tick();
        check.same("three ticks behind it", x.channel(0, 2), 1);
        check.same("events", Check.events(x, 0), "3:1(0,0) 4:2(0,0) 6:3(0,0)");
    }

    private static void aWrongReadingLeavesTheBistable(Check check) {
        TripGuard x = new TripGuard(1);
        x.sense(0, 0, 3100);
        x.tick();
        x.sense(0, 0, 2000);
        x.tick();
        check.same("inside, but wrong", x.channel(0, 2), 1);
        check.same("wrong", x.channel(0, 1), 1);
        x.tick();
        check.same("inside", x.channel(0, 2), 0);
        check.same("events", Check.events(x, 0), "1:3(0,0) 2:1(0,0) 3:2(0,0) 3:4(0,0)");
    }

    private static void temperatureFollowsWrongReadings(Check check) {
        TripGuard x = new TripGuard(1);
        x.sense(3, 0, 4095);
        x.sense(3, 1, 0);
        x.sense(3, 2, 1001);
        x.tick();
        check.same("power and pressure wrong, temperature set", Check.events(x, 0), "1:1(3,0) 1:1(3,1) 1:3(3,2)");
        check.same("votes", x.channel(3, 0), 7);
        check.same("wrong", x.channel(3, 1), 3);
        check.same("set", x.channel(3, 2), 4);
    }

    private static void orderOfEvents(Check check) {
        TripGuard x = new TripGuard(1);
        x.sense(0, 0, 4001);
        x.sense(0, 2, 2901);
        x.sense(2, 0, 49);
        x.sense(1, 1, 1100);
        x.tick();
        check.same("tick 1", Check.events(x, 0), "1:1(0,0) 1:3(0,2) 1:3(1,1) 1:1(2,0)");
        TripGuard y = new TripGuard(1);
        y.sense(1, 0, 4050);
        y.sense(1, 1, 20);
        y.sense(1, 2, 900);
        y.tick();
        y.sense(1, 0, 3900);
        y.sense(1, 1, 300);
        y.tick();
        check.same("wrong and bistable go together", Check.events(y, 2), "2:2(1,0) 2:3(1,0) 2:2(1,1) 2:3(1,1)");
    }
}
