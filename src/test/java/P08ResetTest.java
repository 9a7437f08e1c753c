/** Promise 8: reset. */
public final class P08ResetTest {
    public static void main(String[] args) {
        Check check = new Check();
        resets(check);
        notWithADemand(check);
        notWithNothing(check);
        tripsAgain(check);
        wrongInputs(check);
        check.finish();
    }

    /** Two channels have all votes for one tick; after tick 3 there is no demand any more. */
    private static TripGuard afterATrip() {
        TripGuard x = new TripGuard(1);
        for (int t = 0; t < 4; t++) {
            x.fault(0, t, 0xFFFFFF);
            x.fault(1, t, 0xFFFFFF);
        }
        Check.ticks(x, 3);
        return x;
    }

    private static void resets(Check check) {
        TripGuard x = afterATrip();
        check.same("latched", x.latched(2), 15);
        int events = x.figure(1);
        x.reset(2);
        check.same("event", Check.events(x, events), "3:13(2,15)");
        check.same("latched of 2", x.latched(2), 0);
        check.same("latched of 1", x.latched(1), 15);
        check.same("tick", x.tick(), 0);
        check.same("latched of 2 still", x.latched(2), 0);
        TripGuard y = new TripGuard(1);
        y.sense(0, 2, 2950);
        y.sense(1, 2, 2950);
        y.tick();
        y.sense(0, 2, 2800);
        Check.ticks(y, 2);
        y.reset(3);
        check.same("event with the latches", Check.events(y, y.figure(1) - 1), "3:13(3,5)");
    }

    private static void notWithADemand(Check check) {
        TripGuard x = new TripGuard(1);
        x.sense(0, 0, 3100);
        x.sense(1, 0, 3100);
        Check.ticks(x, 2);
        int events = x.figure(1);
        check.badState("reset with a demand", () -> x.reset(0));
        x.sense(0, 0, 2900);
        x.sense(1, 0, 2900);
        check.badState("before a tick", () -> x.reset(0));
        x.bypass(0);
        check.badState("bypassed, but before a tick", () -> x.reset(0));
        check.same("latched", x.latched(0), 1);
        check.same("events", x.figure(1), events + 1);
        x.tick();
        check.same("demands", x.demands(0), 0);
        x.reset(0);
        check.same("latched after it", x.latched(0), 0);
    }

    private static void notWithNothing(Check check) {
        TripGuard x = afterATrip();
        x.reset(1);
        int events = x.figure(1);
        check.badState("reset again", () -> x.reset(1));
        check.same("no event", x.figure(1), events);
        TripGuard y = new TripGuard(1);
        y.tick();
        for (int t = 0; t < 4; t++) {
            int train = t;
            check.badState("reset of a train without a trip", () -> y.reset(train));
        }
    }

    private static void tripsAgain(Check check) {
        TripGuard x = afterATrip();
        x.reset(0);
        x.fault(2, 0, 0);
        x.fault(3, 0, 0);
        x.tick();
        int events = x.figure(1);
        check.same("tick", x.tick(), 9);
        check.same("events", Check.events(x, events),
                "5:5(0,2) 5:5(0,3) 5:6(0,0) 5:6(0,1) 5:6(0,2) 5:7(0,0) 5:8(0,0) 5:8(0,1) 5:8(0,2)");
    }

    private static void wrongInputs(Check check) {
        TripGuard x = afterATrip();
        int[] bad = {-1, 4, Integer.MIN_VALUE, Integer.MAX_VALUE};
        for (int b : bad) {
            check.badArgument("reset(" + b + ")", () -> x.reset(b));
        }
    }
}
