/** Promise 5: bypass. */
public final class P05BypassTest {
    public static void main(String[] args) {
        Check check = new Check();
        itsVotesDoNotCount(check);
        twoOfTheOtherThreeAreNeeded(check);
        itsFramesAreLookedAt(check);
        wrongInputs(check);
        notTwoAndNotUnderTest(check);
        check.finish();
    }

    private static void itsVotesDoNotCount(Check check) {
        for (int c = 0; c < 4; c++) {
            TripGuard x = new TripGuard(1);
            x.tick();
            x.bypass(c);
            check.same("figure 5", x.figure(5), c);
            check.same("event", Check.events(x, 0), "1:11(" + c + ",0)");
            x.sense(c, 0, 4095);
            x.sense((c + 1) % 4, 0, 4095);
            check.same("tick 2", x.tick(), 2);
            check.same("tick 3", x.tick(), 0);
            check.same("votes are told", x.votes(1, c), 1);
            check.same("no demand", x.demands(1), 0);
        }
    }

    private static void twoOfTheOtherThreeAreNeeded(Check check) {
        TripGuard x = new TripGuard(1);
        x.bypass(0);
        x.sense(1, 0, 4095);
        x.tick();
        x.tick();
        check.same("one of three", x.demands(2), 0);
        x.sense(3, 0, 4095);
        x.tick();
        check.same("two of three", x.tick(), 8);
        check.same("demands", x.demands(2), 1);
    }

    private static void itsFramesAreLookedAt(Check check) {
        TripGuard x = new TripGuard(1);
        x.bypass(2);
        x.fault(2, 1, 0);
        x.tick();
        check.same("tick", x.tick(), 1);
        check.same("events", Check.events(x, 0), "0:11(2,0) 2:5(1,2)");
        check.same("votes", x.votes(1, 2), 7);
        check.same("figure 2", x.figure(2), 1);
    }

    private static void wrongInputs(Check check) {
        TripGuard x = new TripGuard(1);
        int[] bad = {-1, 4, Integer.MIN_VALUE, Integer.MAX_VALUE};
        for (int b : bad) {
            check.badArgument("bypass(" + b + ")", () -> x.bypass(b));
        }
        x.bypass(1);
        for (int b : bad) {
            check.badArgument("bypass(" + b + ") with one bypassed", () -> x.bypass(b));
        }
        check.same("events", x.figure(1), 1);
    }

    private static void notTwoAndNotUnderTest(Check check) {
        TripGuard x = new TripGuard(1);
        x.bypass(1);
        for (int c = 0; c < 4; c++) {
            int channel = c;
            check.badState("bypass(" + c + ") with one bypassed", () -> x.bypass(channel));
        }
        check.same("still", x.figure(5), 1);
        check.same("one event", x.figure(1), 1);
        TripGuard y = new TripGuard(1);
        y.test(3, 0);
        check.badState("bypass of the channel under test", () -> y.bypass(3));
        y.tick();
        check.badState("and a tick later", () -> y.bypass(3));
        y.bypass(2);
        check.same("another can be", y.figure(5), 2);
        y.tick();
        y.restore();
        y.bypass(3);
        check.same("when the test has ended", y.figure(5), 3);
    }
}
