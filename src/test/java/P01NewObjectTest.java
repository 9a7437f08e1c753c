/** Promise 1: a new object. */
public final class P01NewObjectTest {
    public static void main(String[] args) {
        Check check = new Check();
        nothingHasHappened(check);
        debounceIsKeptWithinOneAndEight(check);
        readingsAreAsSaid(check);
        check.finish();
    }

    private static void nothingHasHappened(Check check) {
        String quiet = "0/0:0,0,0,0;0,3000,0,1200,0,2900 ";
        check.same("a new object", Check.state(new TripGuard(3)),
                quiet + quiet + quiet + quiet + "0 0 0 0 0 -1 -1 false");
        TripGuard x = new TripGuard(3);
        check.refused("event(0, 0)", java.util.NoSuchElementException.class, () -> x.event(0, 0));
        check.badState("restore()", () -> x.restore());
        check.badState("reset(0)", () -> x.reset(0));
        check.same("the first tick", x.tick(), 0);
        check.same("the second tick (no fault was set)", x.tick(), 0);
    }

    private static void debounceIsKeptWithinOneAndEight(Check check) {
        int[][] given = {{Integer.MIN_VALUE, 1}, {-1, 1}, {0, 1}, {1, 1}, {2, 2}, {5, 5}, {7, 7}, {8, 8}, {9, 8},
            {100, 8}, {Integer.MAX_VALUE, 8}};
        for (int[] pair : given) {
            TripGuard x = new TripGuard(pair[0]);
            x.sense(2, 0, 3001);
            int ticks = 0;
            while (x.channel(2, 2) == 0 && ticks < 12) {
                x.tick();
                ticks++;
            }
            check.same("debounce " + pair[0] + " sets after", ticks, pair[1]);
            check.same("debounce " + pair[0] + " sets no other", x.channel(2, 2) + x.channel(1, 2), 1);
        }
    }

    private static void readingsAreAsSaid(Check check) {
        int[] first = {2000, 2200, 1500};
        for (int c = 0; c < 4; c++) {
            for (int p = 0; p < 3; p++) {
                check.same("400 up " + c + " " + p, wrongAfterStep(c, p, first[p] + 400), 0);
                check.same("401 up " + c + " " + p, wrongAfterStep(c, p, first[p] + 401), 1 << p);
                check.same("400 down " + c + " " + p, wrongAfterStep(c, p, first[p] - 400), 0);
                check.same("401 down " + c + " " + p, wrongAfterStep(c, p, first[p] - 401), 1 << p);
            }
        }
    }

    private static int wrongAfterStep(int channel, int parameter, int value) {
        TripGuard x = new TripGuard(1);
        x.tick();
        x.sense(channel, parameter, value);
        x.tick();
        return x.channel(channel, 1);
    }
}
