/** Promises 10 to 14: channel, votes, demands, latched, tripped. */
public final class P10ToP14AnswersTest {
    private static final int[] BAD = {-1, 4, Integer.MIN_VALUE, Integer.MAX_VALUE};

    public static void main(String[] args) {
        Check check = new Check();
        channelAsTheLastTickLeftIt(check);
        votesAndDemandsOfTheLastTick(check);
        latchedBits(check);
        trippedByTwoBreakers(check);
        wrongInputs(check);
        check.finish();
    }

    private static void channelAsTheLastTickLeftIt(Check check) {
        TripGuard x = new TripGuard(1);
        x.sense(1, 0, 3100);
        x.sense(1, 2, 4095);
        for (int which = 0; which < 3; which++) {
            check.same("before any tick", x.channel(1, which), 0);
        }
        x.tick();
        int[] due = {5, 4, 1};
        for (int which = 0; which < 3; which++) {
            check.same("which " + which, x.channel(1, which), due[which]);
            check.same("of another channel", x.channel(2, which), 0);
        }
        x.sense(1, 0, 2000);
        x.sense(1, 2, 4000);
        for (int which = 0; which < 3; which++) {
            check.same("sensed, but not ticked, " + which, x.channel(1, which), due[which]);
        }
    }

    private static void votesAndDemandsOfTheLastTick(Check check) {
        TripGuard x = new TripGuard(1);
        x.sense(1, 0, 3100);
        x.sense(2, 0, 3100);
        x.sense(2, 1, 20);
        x.tick();
        check.same("votes in tick 1", x.votes(0, 1), 0);
        check.same("demands in tick 1", x.demands(0), 0);
        x.tick();
        for (int t = 0; t < 4; t++) {
            check.same("votes of 0", x.votes(t, 0), 0);
            check.same("votes of 1", x.votes(t, 1), 1);
            check.same("votes of 2", x.votes(t, 2), 3);
            check.same("votes of 3", x.votes(t, 3), 0);
            check.same("demands", x.demands(t), 1);
        }
        x.bypass(1);
        check.same("votes, no tick since", x.votes(0, 1), 1);
        check.same("demands, no tick since", x.demands(0), 1);
    }

    private static void latchedBits(Check check) {
        int[] due = {0, 1, 3, 11, 5, 5, 7, 15};
        for (int bits = 0; bits < 8; bits++) {
            TripGuard x = new TripGuard(1);
            x.fault(0, 3, FrameWords.good(1, bits));
            x.fault(2, 3, FrameWords.good(1, bits));
            Check.ticks(x, 2);
            check.same("demands with " + bits, x.demands(3), bits);
            check.same("latched with " + bits, x.latched(3), due[bits]);
            check.same("latched of another", x.latched(0), 0);
        }
    }

    private static void trippedByTwoBreakers(Check check) {
        for (int trains = 0; trains < 16; trains++) {
            TripGuard x = new TripGuard(1);
            for (int t = 0; t < 4; t++) {
                if ((trains >> t & 1) != 0) {
                    x.fault(0, t, 0xFFFFFF);
                    x.fault(1, t, 0xFFFFFF);
                }
            }
            x.tick();
            check.same("not yet", x.tripped() ? 1 : 0, 0);
            x.tick();
            int open = Integer.bitCount(trains);
            check.same("tripped by " + open, x.tripped() ? 1 : 0, open >= 2 ? 1 : 0);
        }
        TripGuard x = new TripGuard(1);
        for (int t = 1; t < 4; t++) {
            x.fault(0, t, 0xFFFFFF);
            x.fault(1, t, 0xFFFFFF);
        }
        Check.ticks(x, 3);
        x.reset(1);
        check.same("two are open still", x.tripped() ? 1 : 0, 1);
        x.reset(3);
        check.same("one is open", x.tripped() ? 1 : 0, 0);
    }

    private static void wrongInputs(Check check) {
        TripGuard x = new TripGuard(1);
        for (int b : BAD) {
            check.badArgument("channel(" + b + ", 0)", () -> x.channel(b, 0));
            check.badArgument("votes(" + b + ", 0)", () -> x.votes(b, 0));
            check.badArgument("votes(0, " + b + ")", () -> x.votes(0, b));
            check.badArgument("demands(" + b + ")", () -> x.demands(b));
            check.badArgument("latched(" + b + ")", () -> x.latched(b));
        }
        for (int b : new int[] {-1, 3, Integer.MIN_VALUE, Integer.MAX_VALUE}) {
            check.badArgument("channel(0, " + b + ")", () -> x.channel(0, b));
        }
        check.same("the last ones are there", x.channel(3, 2) + x.votes(3, 3) + x.demands(3) + x.latched(3), 0);
    }
}
