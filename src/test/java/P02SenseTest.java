/** Promise 2: sense. */
public final class P02SenseTest {
    public static void main(String[] args) {
        Check check = new Check();
        wrongInputs(check);
        edgesAreTaken(check);
        theLatestCounts(check);
        theSameValueIsNew(check);
        aRefusedOneIsNotNew(check);
        onlyItsOwnReading(check);
        check.finish();
    }

    private static void wrongInputs(Check check) {
        TripGuard x = new TripGuard(1);
        String before = Check.state(x);
        int[][] bad = {{-1, 0, 100}, {4, 0, 100}, {0, -1, 100}, {0, 3, 100}, {0, 0, -1}, {0, 0, 4096},
            {Integer.MIN_VALUE, 0, 1}, {Integer.MAX_VALUE, 0, 1}, {0, Integer.MIN_VALUE, 1},
            {0, Integer.MAX_VALUE, 1}, {3, 2, Integer.MIN_VALUE}, {3, 2, Integer.MAX_VALUE}, {4, 3, 4096}};
        for (int[] b : bad) {
            check.badArgument("sense(" + b[0] + ", " + b[1] + ", " + b[2] + ")", () -> x.sense(b[0], b[1], b[2]));
        }
        check.same("after wrong inputs", Check.state(x), before);
    }

    private static void edgesAreTaken(Check check) {
        TripGuard x = new TripGuard(1);
        x.sense(0, 0, 0);
        check.same("limit at power 0", x.limit(0, 2), 3600);
        x.sense(0, 0, 4095);
        check.same("limit at power 4095", x.limit(0, 2), 1500);
        x.sense(3, 1, 0);
        check.same("limit at pressure 0", x.limit(3, 2), 2400);
    }

    private static void theLatestCounts(Check check) {
        TripGuard x = new TripGuard(1);
        x.tick();
        x.sense(1, 0, 4090);
        x.sense(1, 0, 2100);
        check.same("a tick after a wrong and a right one", x.tick(), 0);
        x.sense(1, 0, 2100);
        x.sense(1, 0, 2600);
        check.same("a tick after a right and a wrong one", x.tick(), 1);
        check.same("events", Check.events(x, 0), "3:1(1,0)");
    }

    private static void theSameValueIsNew(Check check) {
        TripGuard x = new TripGuard(1);
        for (int n = 1; n <= 13; n++) {
            x.tick();
        }
        x.sense(2, 1, 2200);
        check.same("the 14th tick", x.tick(), 11);
        check.same("channel 2", x.channel(2, 1), 5);
    }

    private static void aRefusedOneIsNotNew(Check check) {
        TripGuard x = new TripGuard(1);
        Check.ticks(x, 13);
        check.badArgument("sense(0, 0, 4096)", () -> x.sense(0, 0, 4096));
        check.same("the 14th tick", x.tick(), 12);
    }

    private static void onlyItsOwnReading(Check check) {
        TripGuard x = new TripGuard(1);
        x.sense(1, 0, 3001);
        x.sense(2, 1, 1199);
        x.sense(3, 2, 2901);
        x.tick();
        check.same("events", Check.events(x, 0), "1:3(1,0) 1:3(2,1) 1:3(3,2)");
    }
}
