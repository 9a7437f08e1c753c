/** Promise 4, the second step of a tick: frames, demands, breakers and functions. */
public final class P04VotingTest {
    public static void main(String[] args) {
        Check check = new Check();
        oneChannelIsNotEnough(check);
        twoChannelsAreADemand(check);
        differentParametersDoNotAdd(check);
        functionsOfEachDemand(check);
        functionTwoNeedsBoth(check);
        latchedStaysWhenTheDemandGoes(check);
        functionsComeLaterToo(check);
        aDemandThatComesAgain(check);
        check.finish();
    }

    private static void oneChannelIsNotEnough(Check check) {
        TripGuard x = new TripGuard(1);
        x.sense(1, 0, 3001);
        check.same("tick 1", x.tick(), 1);
        check.same("tick 2", x.tick(), 0);
        for (int t = 0; t < 4; t++) {
            check.same("votes of channel 1 at " + t, x.votes(t, 1), 1);
            check.same("votes of channel 0 at " + t, x.votes(t, 0), 0);
            check.same("demands of " + t, x.demands(t), 0);
            check.same("latched of " + t, x.latched(t), 0);
        }
    }

    private static void twoChannelsAreADemand(Check check) {
        TripGuard x = new TripGuard(1);
        x.sense(1, 0, 3001);
        x.sense(3, 0, 3001);
        check.same("tick 1", x.tick(), 2);
        check.same("votes come a tick later", x.votes(0, 1), 0);
        check.same("tick 2", x.tick(), 8);
        check.same("events, train by train", Check.events(x, 2),
                "2:6(0,0) 2:7(0,0) 2:6(1,0) 2:7(1,0) 2:6(2,0) 2:7(2,0) 2:6(3,0) 2:7(3,0)");
        check.same("tick 3: nothing new", x.tick(), 0);
        for (int t = 0; t < 4; t++) {
            check.same("demands of " + t, x.demands(t), 1);
            check.same("latched of " + t, x.latched(t), 1);
        }
    }

    private static void differentParametersDoNotAdd(Check check) {
        TripGuard x = new TripGuard(1);
        x.sense(0, 0, 3001);
        x.sense(1, 1, 1199);
        x.sense(2, 2, 2901);
        Check.ticks(x, 3);
        check.same("demands", x.demands(0), 0);
        check.same("events", x.figure(1), 3);
        check.same("votes of 0", x.votes(3, 0), 1);
        check.same("votes of 1", x.votes(3, 1), 2);
        check.same("votes of 2", x.votes(3, 2), 4);
        check.same("votes of 3", x.votes(3, 3), 0);
    }

    /** An object after tick 2 whose channels 0 and 3 have these bits wrong. */
    private static TripGuard withWrong(int bits) {
        TripGuard x = new TripGuard(1);
        for (int p = 0; p < 3; p++) {
            if ((bits >> p & 1) != 0) {
                x.sense(0, p, 4095);
                x.sense(3, p, 4095);
            }
        }
        x.tick();
        x.tick();
        return x;
    }

    private static void functionsOfEachDemand(Check check) {
        int[] due = {0, 1, 3, 11, 5, 5, 7, 15};
        for (int bits = 0; bits < 8; bits++) {
            TripGuard x = withWrong(bits);
            check.same("demands with " + bits, x.demands(2), bits);
            check.same("latched with " + bits, x.latched(2), due[bits]);
        }
        TripGuard x = withWrong(7);
        String text = Check.events(x, x.figure(1) - 7);
        check.same("events of the last train", text, "2:6(3,0) 2:6(3,1) 2:6(3,2) 2:7(3,0) 2:8(3,0) 2:8(3,1) 2:8(3,2)");
    }

    private static void functionTwoNeedsBoth(Check check) {
        TripGuard x = new TripGuard(1);
        Check.senseAll(x, 0, 3100);
        Check.ticks(x, 2);
        check.same("power alone", x.latched(0), 1);
        Check.senseAll(x, 0, 2900);
        Check.ticks(x, 2);
        Check.senseAll(x, 1, 1800);
        x.tick();
        Check.senseAll(x, 1, 1400);
        x.tick();
        Check.senseAll(x, 1, 1100);
        Check.ticks(x, 2);
        check.same("pressure later, alone", x.demands(0), 2);
        check.same("one after the other is not both", x.latched(0), 3);
    }

    private static void latchedStaysWhenTheDemandGoes(Check check) {
        TripGuard x = withWrong(6);
        check.same("latched", x.latched(1), 7);
        for (int c = 0; c < 4; c++) {
            x.sense(c, 1, 3900);
            x.sense(c, 2, 1400);
        }
        Check.ticks(x, 3);
        check.same("demands", x.demands(1), 0);
        check.same("latched still", x.latched(1), 7);
        check.same("tripped still", x.tripped() ? 1 : 0, 1);
    }

    private static void functionsComeLaterToo(Check check) {
        TripGuard x = new TripGuard(1);
        Check.senseAll(x, 0, 3100);
        Check.ticks(x, 2);
        int events = x.figure(1);
        Check.senseAll(x, 1, 4095);
        check.same("tick 3: all are wrong", x.tick(), 4);
        check.same("tick 4", x.tick(), 4 * 3);
        check.same("events of the last train", Check.events(x, events + 4 + 9),
                "4:6(3,1) 4:8(3,0) 4:8(3,2)");
        check.same("latched", x.latched(3), 11);
    }

    private static void aDemandThatComesAgain(Check check) {
        TripGuard x = new TripGuard(1);
        x.sense(0, 0, 3100);
        x.sense(1, 0, 3100);
        Check.ticks(x, 2);
        x.sense(1, 0, 2900);
        x.tick();
        check.same("demand still, a tick later", x.demands(0), 1);
        x.sense(1, 0, 3100);
        check.same("the demand goes without an event", x.tick(), 1);
        check.same("no demand", x.demands(0), 0);
        int events = x.figure(1);
        check.same("and comes again", x.tick(), 4);
        check.same("events", Check.events(x, events), "5:6(0,0) 5:6(1,0) 5:6(2,0) 5:6(3,0)");
    }
}
