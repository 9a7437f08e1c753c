/** Promise 7 and the third step of a tick: tests of a channel's parameter. */
public final class P07TestTest {
    public static void main(String[] args) {
        Check check = new Check();
        everyTestPasses(check);
        aTestIsNoVote(check);
        oneBadFrameFailsIt(check);
        aBadFrameOfAnotherChannelDoesNot(check);
        aFaultWithoutTheBitFailsIt(check);
        aFaultWithTheBitPassesIt(check);
        faultsOnAllLinksFailIt(check);
        bitsOfTestsAreNoDemand(check);
        theBitIsSentOnce(check);
        oneAfterTheOther(check);
        wrongInputs(check);
        notTwoAndNotBypassed(check);
        check.finish();
    }

    private static void everyTestPasses(Check check) {
        for (int c = 0; c < 4; c++) {
            for (int p = 0; p < 3; p++) {
                TripGuard x = new TripGuard(1);
                x.test(c, p);
                check.same("no event", x.figure(1), 0);
                check.same("under way at once", x.figure(6), c);
                check.same("tick 1", x.tick(), 0);
                check.same("under way", x.figure(6), c);
                check.same("tick 2", x.tick(), 1);
                check.same("not under way", x.figure(6), -1);
                check.same("event", Check.events(x, 0), "2:9(" + c + "," + p + ")");
                check.same("passed", x.figure(3), 1);
                check.same("not passed", x.figure(4), 0);
                check.same("tick 3", x.tick(), 0);
            }
        }
    }

    private static void aTestIsNoVote(Check check) {
        TripGuard x = new TripGuard(1);
        x.sense(0, 0, 3001);
        x.tick();
        x.test(1, 0);
        Check.ticks(x, 2);
        check.same("votes of the tested one", x.votes(0, 1), 0);
        check.same("its own votes", x.channel(1, 0), 0);
        check.same("demands", x.demands(0), 0);
        check.same("passed", x.figure(3), 1);
        x.test(0, 2);
        Check.ticks(x, 2);
        check.same("votes beside a test", x.votes(0, 0), 1);
        check.same("passed", x.figure(3), 2);
    }

    private static void oneBadFrameFailsIt(Check check) {
        for (int t = 0; t < 4; t++) {
            TripGuard x = new TripGuard(1);
            x.test(2, 1);
            x.fault(2, t, 0xFFFFFF);
            x.tick();
            check.same("tick 2", x.tick(), 2);
            check.same("events", Check.events(x, 0), "2:5(" + t + ",2) 2:10(2,1)");
            check.same("passed", x.figure(3), 0);
            check.same("not passed", x.figure(4), 1);
            check.same("not under way", x.figure(6), -1);
        }
    }

    private static void aBadFrameOfAnotherChannelDoesNot(Check check) {
        TripGuard x = new TripGuard(1);
        x.test(2, 1);
        x.fault(1, 0, 0xFFFFFF);
        Check.ticks(x, 2);
        check.same("events", Check.events(x, 0), "2:5(0,1) 2:9(2,1)");
    }

    private static void aFaultWithoutTheBitFailsIt(Check check) {
        TripGuard x = new TripGuard(1);
        x.test(2, 1);
        x.fault(2, 3, 0x150001);
        check.same("tick 1", x.tick(), 0);
        check.same("tick 2", x.tick(), 1);
        check.same("events", Check.events(x, 0), "2:10(2,1)");
        check.same("the frame was good", x.figure(2), 0);
    }

    private static void aFaultWithTheBitPassesIt(Check check) {
        TripGuard x = new TripGuard(1);
        x.test(2, 1);
        x.fault(2, 3, FrameWords.good(1, 0xFF));
        Check.ticks(x, 2);
        check.same("events", Check.events(x, 0), "2:9(2,1)");
        check.same("votes of the fault", x.votes(3, 2), 7);
        TripGuard y = new TripGuard(1);
        y.test(2, 1);
        y.fault(2, 3, FrameWords.good(1, 8 | 32));
        Check.ticks(y, 2);
        check.same("the bits of other parameters", Check.events(y, 0), "2:10(2,1)");
    }

    private static void faultsOnAllLinksFailIt(Check check) {
        TripGuard x = new TripGuard(1);
        x.test(0, 0);
        for (int t = 0; t < 4; t++) {
            x.fault(0, t, 0xFFFFFF);
        }
        Check.ticks(x, 2);
        check.same("the test ends in the tick behind the next", Check.events(x, 0),
                "2:5(0,0) 2:5(1,0) 2:5(2,0) 2:5(3,0) 2:10(0,0)");
    }

    private static void bitsOfTestsAreNoDemand(Check check) {
        TripGuard x = new TripGuard(1);
        for (int c = 0; c < 4; c++) {
            x.fault(c, 2, FrameWords.good(1, 0xF8));
        }
        x.tick();
        check.same("tick 2", x.tick(), 0);
        check.same("votes", x.votes(2, 0), 0);
        check.same("demands", x.demands(2), 0);
        check.same("latched", x.latched(2), 0);
    }

    private static void theBitIsSentOnce(Check check) {
        TripGuard x = new TripGuard(1);
        x.test(0, 0);
        Check.ticks(x, 2);
        x.test(0, 0);
        check.same("the tick that sends it does not end it", x.tick(), 0);
        check.same("the next one does", x.tick(), 1);
        check.same("events", Check.events(x, 0), "2:9(0,0) 4:9(0,0)");
    }

    private static void oneAfterTheOther(Check check) {
        TripGuard x = new TripGuard(1);
        x.tick();
        x.test(3, 2);
        Check.ticks(x, 2);
        x.test(3, 1);
        x.fault(3, 0, 0);
        Check.ticks(x, 2);
        x.test(1, 1);
        Check.ticks(x, 2);
        check.same("events", Check.events(x, 0), "3:9(3,2) 5:5(0,3) 5:10(3,1) 7:9(1,1)");
        check.same("passed", x.figure(3), 2);
        check.same("not passed", x.figure(4), 1);
    }

    private static void wrongInputs(Check check) {
        TripGuard x = new TripGuard(1);
        int[][] bad = {{-1, 0}, {4, 0}, {0, -1}, {0, 3}, {Integer.MIN_VALUE, 0}, {Integer.MAX_VALUE, 0},
            {0, Integer.MIN_VALUE}, {0, Integer.MAX_VALUE}};
        for (int[] b : bad) {
            check.badArgument("test(" + b[0] + ", " + b[1] + ")", () -> x.test(b[0], b[1]));
        }
        check.same("none under way", x.figure(6), -1);
        x.test(0, 0);
        x.bypass(1);
        for (int[] b : bad) {
            check.badArgument("test(" + b[0] + ", " + b[1] + ") under a test", () -> x.test(b[0], b[1]));
        }
        check.badArgument("test(1, 3) of a bypassed channel", () -> x.test(1, 3));
    }

    private static void notTwoAndNotBypassed(Check check) {
        TripGuard x = new TripGuard(1);
        x.bypass(0);
        check.badState("test of a bypassed channel", () -> x.test(0, 1));
        check.same("none under way", x.figure(6), -1);
        x.test(1, 1);
        check.badState("a second test", () -> x.test(2, 0));
        check.badState("the same again", () -> x.test(1, 1));
        x.tick();
        check.badState("a second test a tick later", () -> x.test(2, 0));
        x.tick();
        x.test(2, 0);
        check.same("when it has ended", x.figure(6), 2);
        check.same("events", Check.events(x, 0), "0:11(0,0) 2:9(1,1)");
    }
}
