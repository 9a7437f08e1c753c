/** The boundary cases of promises 1 to 14 outside of a tick, a test for each sentence. */
public final class BoundaryCallsTest {
    private static final int[] OUTSIDE = {-1, 4, Integer.MIN_VALUE, Integer.MAX_VALUE};

    public static void main(String[] args) {
        Check check = new Check();
        check.sentence("No tick, all readings as said, nothing wrong or set, no bypass, test or fault, all breakers "
                + "closed", () -> newObject(check));
        check.sentence("The debounce is 1 when it is less, 8 when it is greater", () -> debounce(check));
        check.sentence("of several between two ticks the latest counts", () -> latestCounts(check));
        check.sentence("the same value, too, is NEW", () -> sameValueIsNew(check));
        check.sentence("sense: IllegalArgumentException: no such channel or parameter, or the value is not 0 .. 4095",
                () -> badSense(check));
        check.sentence("The limit of a parameter of a channel by its readings as they are (sensed, ticked or not)",
                () -> limitAsTheyAre(check));
        check.sentence("limit: IllegalArgumentException: no such channel or parameter", () -> badLimit(check));
        check.sentence("its frames are sent and looked at as ever; its votes do not count for demands",
                () -> bypassedFrames(check));
        check.sentence("bypass: IllegalArgumentException: no such channel", () -> badBypass(check));
        check.sentence("bypass: IllegalStateException: one is bypassed", () -> secondBypass(check));
        check.sentence("bypass: IllegalStateException: or a test of this channel is under way",
                () -> bypassUnderTest(check));
        check.sentence("No channel is bypassed any more: event 12 (channel, 0)", () -> restore(check));
        check.sentence("restore: IllegalStateException: none was", () -> restoreOfNone(check));
        check.sentence("no event; it is under way at once", () -> testBegins(check));
        check.sentence("its bit is sent in the next tick, and looked for in the one behind that",
                () -> {
                    testGoesThrough(check);
                    testOfReplacedFrames(check);
                });
        check.sentence("test: IllegalArgumentException: no such channel or parameter", () -> badTest(check));
        check.sentence("test: IllegalStateException: a test is under way", () -> secondTest(check));
        check.sentence("test: IllegalStateException: or the channel is bypassed", () -> testOfBypassed(check));
        check.sentence("its breaker closes and no function runs any more: event 13 (train, what latched() was)",
                () -> reset(check));
        check.sentence("reset: IllegalArgumentException: no such train", () -> badReset(check));
        check.sentence("reset: IllegalStateException: nothing is to be reset there (latched() is 0)",
                () -> resetOfNothing(check));
        check.sentence("reset: IllegalStateException: or it has a demand (as the last tick left it)",
                () -> resetWithADemand(check));
        check.sentence("instead of the next frame that the channel sends to the train the three lowest bytes of word "
                + "(the lowest one first) are sent", () -> bytesOfAFault(check));
        check.sentence("fault: IllegalArgumentException: no such channel or train", () -> badFault(check));
        check.sentence("as the last tick left them (0 before any)", () -> channelBeforeAnyTick(check));
        check.sentence("channel: IllegalArgumentException: no such channel, or which is not 0 .. 2",
                () -> badChannel(check));
        check.sentence("The votes that a train had of a channel in the last tick", () -> votesOfTheLastTick(check));
        check.sentence("votes: IllegalArgumentException: no such train or channel", () -> badVotes(check));
        check.sentence("The demands of a train in the last tick, a bit for each parameter",
                () -> demandsOfTheLastTick(check));
        check.sentence("demands: IllegalArgumentException: no such train",
                () -> check.takesOnly("demands", 0, 3, t -> tripped(15, 7).demands(t)));
        check.sentence("Bit 0: the breaker of a train is open; bit 1 + f: function f runs", () -> latchedBits(check));
        check.sentence("latched: IllegalArgumentException: no such train",
                () -> check.takesOnly("latched", 0, 3, t -> tripped(15, 7).latched(t)));
        check.sentence("Whether the breakers of two or more trains are open now", () -> twoBreakers(check));
        check.finish();
    }

    /** Tick 2 gives these trains a demand of each of these parameters, by channels 0 and 3. */
    private static TripGuard tripped(int trains, int demands) {
        TripGuard x = new TripGuard(1);
        for (int t = 0; t < 4; t++) {
            if ((trains >> t & 1) != 0) {
                x.fault(0, t, FrameWords.good(1, demands));
                x.fault(3, t, FrameWords.good(1, demands));
            }
        }
        Check.ticks(x, 2);
        return x;
    }

    private static void newObject(Check check) {
        TripGuard x = new TripGuard(1);
        String quiet = "0/0:0,0,0,0;0,3000,0,1200,0,2900 ";
        check.same("all that can be asked", Check.state(x), quiet + quiet + quiet + quiet + "0 0 0 0 0 -1 -1 false");
        Check.ticks(x, 13);
        check.same("13 ticks later but for the time", Check.state(x),
                quiet + quiet + quiet + quiet + "13 0 0 0 0 -1 -1 false");
    }

    private static void debounce(Check check) {
        int[][] due = {{Integer.MIN_VALUE, 1}, {-8, 1}, {-1, 1}, {0, 1}, {1, 1}, {2, 2}, {7, 7}, {8, 8}, {9, 8},
            {10, 8}, {16, 8}, {256, 8}, {Integer.MAX_VALUE, 8}};
        for (int[] d : due) {
            TripGuard x = new TripGuard(d[0]);
            x.sense(0, 0, 3001);
            Check.ticks(x, d[1] - 1);
            check.same("debounce " + d[0] + ", a tick before", x.channel(0, 2), 0);
            x.tick();
            check.same("debounce " + d[0], x.channel(0, 2), 1);
        }
    }

    private static void latestCounts(Check check) {
        TripGuard x = new TripGuard(1);
        x.tick();
        x.sense(2, 0, 4095);
        x.sense(2, 0, 0);
        x.sense(2, 0, 2400);
        check.same("two wrong ones, then a right one", x.tick(), 0);
        x.sense(2, 0, 2400);
        x.sense(2, 0, 2801);
        check.same("a right one, then a wrong one", x.tick(), 1);
        TripGuard y = new TripGuard(1);
        y.sense(2, 0, 3001);
        y.sense(2, 0, 3000);
        check.same("beyond, then not", y.tick(), 0);
        y.sense(2, 0, 3000);
        y.sense(2, 0, 3001);
        check.same("not beyond, then beyond", y.tick(), 1);
    }

    private static void sameValueIsNew(Check check) {
        int[] first = {2000, 2200, 1500};
        for (int p = 0; p < 3; p++) {
            TripGuard x = new TripGuard(1);
            for (int n = 1; n <= 40; n++) {
                if (n % 13 == 0) {
                    x.sense(3, p, first[p]);
                }
                x.tick();
                check.same("wrong in tick " + n, x.channel(3, 1) >> p & 1, 0);
            }
        }
    }

    private static void badSense(Check check) {
        for (int n : OUTSIDE) {
            check.badArgument("channel " + n, () -> new TripGuard(1).sense(n, 0, 2000));
            check.badArgument("parameter " + n, () -> new TripGuard(1).sense(0, n, 2000));
        }
        check.badArgument("parameter 3", () -> new TripGuard(1).sense(0, 3, 2000));
        check.takesOnly("value", 0, 4095, n -> new TripGuard(1).sense(1, 1, n));
    }

    private static void limitAsTheyAre(Check check) {
        TripGuard x = new TripGuard(1);
        check.same("nothing sensed", x.limit(2, 2), 2900);
        x.sense(2, 0, 4000);
        check.same("sensed before tick 1", x.limit(2, 2), 1500);
        x.tick();
        check.same("ticked", x.limit(2, 2), 1500);
        x.sense(2, 1, 1996);
        check.same("sensed behind it", x.limit(2, 2), 1499);
        x.sense(2, 0, 0);
        x.sense(2, 1, 2000);
        check.same("sensed once more", x.limit(2, 2), 3600);
        check.same("of another channel", x.limit(1, 2), 2900);
    }

    private static void badLimit(Check check) {
        check.takesOnly("channel", 0, 3, n -> new TripGuard(1).limit(n, 2));
        check.takesOnly("parameter", 0, 2, n -> new TripGuard(1).limit(3, n));
    }

    private static void bypassedFrames(Check check) {
        for (int c = 0; c < 4; c++) {
            TripGuard x = new TripGuard(1);
            x.bypass(c);
            x.sense(c, 0, 0);
            x.sense((c + 1) % 4, 0, 0);
            Check.ticks(x, 2);
            check.same("its votes are there", x.votes(3, c), 1);
            check.same("and do not count", x.demands(3), 0);
            x.fault(c, 3, 0);
            Check.ticks(x, 2);
            check.same("its bad frame is told", x.votes(3, c), 7);
            check.same("and is no demand", x.demands(3), 0);
            check.same("but is recorded", Check.events(x, x.figure(1) - 1), "4:5(3," + c + ")");
            x.fault((c + 2) % 4, 3, 0);
            Check.ticks(x, 2);
            check.same("two others are a demand", x.demands(3), 1);
        }
    }

    private static void badBypass(Check check) {
        check.takesOnly("channel", 0, 3, n -> new TripGuard(1).bypass(n));
        TripGuard x = new TripGuard(1);
        x.bypass(0);
        x.test(1, 0);
        for (int n : OUTSIDE) {
            check.badArgument("bypass(" + n + ") where one is bypassed and one under test", () -> x.bypass(n));
        }
    }

    private static void secondBypass(Check check) {
        for (int c = 0; c < 4; c++) {
            TripGuard x = new TripGuard(1);
            x.bypass(c);
            for (int n = 0; n < 4; n++) {
                int other = n;
                check.badState("bypass(" + n + ") where " + c + " is bypassed", () -> x.bypass(other));
            }
            x.tick();
            check.badState("a tick later", () -> x.bypass(3));
            x.restore();
            x.bypass(3);
            check.same("behind restore()", x.figure(5), 3);
        }
    }

    private static void bypassUnderTest(Check check) {
        for (int c = 0; c < 4; c++) {
            int channel = c;
            TripGuard x = new TripGuard(1);
            x.test(c, 0);
            check.badState("bypass(" + c + ") at once", () -> x.bypass(channel));
            x.tick();
            check.badState("bypass(" + c + ") when the bit is sent", () -> x.bypass(channel));
            x.tick();
            x.bypass(c);
            check.same("when the test has ended", x.figure(5), c);
            TripGuard y = new TripGuard(1);
            y.test(c, 0);
            y.bypass((c + 1) % 4);
            check.same("another channel, the test being under way", y.figure(5), (c + 1) % 4);
        }
    }

    private static void restore(Check check) {
        for (int c = 0; c < 4; c++) {
            TripGuard x = new TripGuard(1);
            x.bypass(c);
            x.sense(c, 0, 0);
            x.sense((c + 1) % 4, 0, 0);
            Check.ticks(x, 2);
            x.restore();
            check.same("event", Check.events(x, x.figure(1) - 1), "2:12(" + c + ",0)");
            check.same("none is bypassed", x.figure(5), -1);
            check.same("no demand without a tick", x.demands(0), 0);
            x.tick();
            check.same("its votes count again", x.demands(0), 1);
        }
    }

    private static void restoreOfNone(Check check) {
        TripGuard x = new TripGuard(1);
        check.badState("restore() of a new object", () -> x.restore());
        x.bypass(0);
        x.restore();
        check.badState("restore() behind restore()", () -> x.restore());
        x.tick();
        check.badState("restore() a tick later", () -> x.restore());
    }

    private static void testBegins(Check check) {
        TripGuard x = new TripGuard(1);
        x.test(3, 1);
        check.same("no event", x.figure(1), 0);
        check.same("under way", x.figure(6), 3);
    }

    private static void testGoesThrough(Check check) {
        for (int c = 0; c < 4; c++) {
            for (int p = 0; p < 3; p++) {
                TripGuard x = new TripGuard(1);
                x.fault(c, 0, 0);
                x.tick();
                x.test(c, p);
                check.same("a bad frame before its bit is sent", x.tick(), 1);
                x.fault(c, 0, 0);
                check.same("its bit is looked for", x.tick(), 1);
                check.same("and is there", x.event(x.figure(1) - 1, 1), 9);
                check.same("a bad frame behind that", x.tick(), 1);
                check.same("passed", x.figure(3), 1);
            }
        }
    }

    /** The tick in which its bit is looked for is the same whatever the links bring instead. */
    private static void testOfReplacedFrames(Check check) {
        int[] words = {0, 0xFFFFFF, FrameWords.good(1, 0), FrameWords.good(1, 16), FrameWords.good(1, 8)};
        for (int word : words) {
            TripGuard x = new TripGuard(1);
            x.test(2, 0);
            for (int t = 0; t < 4; t++) {
                x.fault(2, t, word);
            }
            x.tick();
            check.same("under way", x.figure(6), 2);
            x.tick();
            boolean hasItsBit = word == FrameWords.good(1, 8);
            check.same("ended, all frames being " + word, x.figure(6), -1);
            check.same("passed", x.figure(3), hasItsBit ? 1 : 0);
            check.same("not passed", x.figure(4), hasItsBit ? 0 : 1);
            check.same("the event", x.event(x.figure(1) - 1, 1), hasItsBit ? 9 : 10);
            x.test(2, 0);
            Check.ticks(x, 2);
            check.same("the next one is passed", x.figure(3), hasItsBit ? 2 : 1);
        }
    }

    private static void badTest(Check check) {
        check.takesOnly("channel", 0, 3, n -> new TripGuard(1).test(n, 2));
        check.takesOnly("parameter", 0, 2, n -> new TripGuard(1).test(3, n));
        TripGuard x = new TripGuard(1);
        x.bypass(0);
        x.test(1, 0);
        for (int n : OUTSIDE) {
            check.badArgument("test(" + n + ", 0) where one is under way", () -> x.test(n, 0));
            check.badArgument("test(1, " + n + ") where one is under way", () -> x.test(1, n));
            check.badArgument("test(0, " + n + ") of a bypassed channel", () -> x.test(0, n));
        }
    }

    private static void secondTest(Check check) {
        TripGuard x = new TripGuard(1);
        x.test(1, 1);
        for (int sent = 0; sent < 2; sent++) {
            for (int n = 0; n < 12; n++) {
                int one = n;
                check.badState("test(" + n / 3 + ", " + n % 3 + ")", () -> x.test(one / 3, one % 3));
            }
            x.tick();
        }
        x.test(1, 1);
        check.same("when the first has ended", x.figure(6), 1);
    }

    private static void testOfBypassed(Check check) {
        for (int c = 0; c < 4; c++) {
            int channel = c;
            TripGuard x = new TripGuard(1);
            x.bypass(c);
            for (int p = 0; p < 3; p++) {
                int parameter = p;
                check.badState("test(" + c + ", " + p + ")", () -> x.test(channel, parameter));
            }
            x.test((c + 1) % 4, 0);
            check.same("of another channel", x.figure(6), (c + 1) % 4);
            Check.ticks(x, 2);
            x.restore();
            x.test(c, 0);
            check.same("behind restore()", x.figure(6), c);
        }
    }

    private static void reset(Check check) {
        int[] latched = {0, 1, 3, 11, 5, 5, 7, 15};
        for (int demands = 1; demands < 8; demands++) {
            for (int t = 0; t < 4; t++) {
                TripGuard x = tripped(15, demands);
                x.tick();
                x.reset(t);
                check.same("event", Check.events(x, x.figure(1) - 1), "3:13(" + t + "," + latched[demands] + ")");
                check.same("latched", x.latched(t), 0);
                check.same("latched of another", x.latched((t + 1) % 4), latched[demands]);
                x.tick();
                check.same("latched a tick later", x.latched(t), 0);
            }
        }
    }

    private static void badReset(Check check) {
        check.takesOnly("train", 0, 3, n -> {
            TripGuard x = tripped(15, 7);
            x.tick();
            x.reset(n);
        });
        for (int n : OUTSIDE) {
            check.badArgument("reset(" + n + ") where nothing is", () -> new TripGuard(1).reset(n));
            check.badArgument("reset(" + n + ") where a demand is", () -> tripped(15, 7).reset(n));
        }
    }

    private static void resetOfNothing(Check check) {
        for (int t = 0; t < 4; t++) {
            int train = t;
            check.badState("a new object", () -> new TripGuard(1).reset(train));
            TripGuard x = tripped(15 - (1 << t), 7);
            x.tick();
            check.badState("all the others have tripped", () -> x.reset(train));
            TripGuard y = tripped(15, 7);
            y.tick();
            y.reset(t);
            check.badState("reset already", () -> y.reset(train));
        }
    }

    private static void resetWithADemand(Check check) {
        for (int demands = 1; demands < 8; demands++) {
            for (int t = 0; t < 4; t++) {
                int train = t;
                TripGuard x = tripped(1 << t, demands);
                check.badState("with the demands " + demands, () -> x.reset(train));
                x.bypass(0);
                check.badState("bypassed behind the last tick", () -> x.reset(train));
                x.tick();
                x.fault(1, t, 0);
                x.fault(2, t, 0);
                x.reset(t);
                check.same("none as the last tick left it", x.latched(t), 0);
            }
        }
        TripGuard y = tripped(3, 1);
        y.fault(0, 1, FrameWords.good(3, 1));
        y.fault(3, 1, FrameWords.good(3, 1));
        y.tick();
        y.tick();
        check.badState("train 1 has a demand", () -> y.reset(1));
        y.reset(0);
        check.same("train 0 has none", y.latched(0), 0);
    }

    private static void bytesOfAFault(Check check) {
        int[][] due = {{0x150001, 0}, {0xFF150001, 0}, {0x80150001, 0}, {0x01150001, 0}, {0x000701, 7},
            {0x7F000701, 7}, {0x070601, 6}, {0x010715, -1}, {0x010015, -1}, {0x15000100, -1}, {0x150100, -1},
            {0, -1}, {-1, -1}, {Integer.MIN_VALUE, -1}, {Integer.MAX_VALUE, -1}};
        for (int[] d : due) {
            TripGuard x = new TripGuard(1);
            x.fault(2, 1, d[0]);
            check.same("nothing is received in tick 1", x.tick(), 0);
            check.same("bad frames", x.tick(), d[1] < 0 ? 1 : 0);
            check.same("votes by " + d[0], x.votes(1, 2), d[1] < 0 ? 7 : d[1]);
            check.same("the frame behind it", x.tick(), 0);
        }
    }

    private static void badFault(Check check) {
        check.takesOnly("channel", 0, 3, n -> new TripGuard(1).fault(n, 3, -1));
        check.takesOnly("train", 0, 3, n -> new TripGuard(1).fault(3, n, -1));
    }

    private static void channelBeforeAnyTick(Check check) {
        for (int c = 0; c < 4; c++) {
            TripGuard x = new TripGuard(1);
            x.sense(c, 0, 3001);
            x.sense(c, 1, 49);
            for (int which = 0; which < 3; which++) {
                check.same("before any tick, which = " + which, x.channel(c, which), 0);
            }
            x.tick();
            int[] due = {3, 2, 1};
            for (int which = 0; which < 3; which++) {
                check.same("as tick 1 left it, which = " + which, x.channel(c, which), due[which]);
            }
            x.sense(c, 0, 2900);
            x.sense(c, 1, 449);
            for (int which = 0; which < 3; which++) {
                check.same("sensed, no tick yet, which = " + which, x.channel(c, which), due[which]);
            }
        }
    }

    private static void badChannel(Check check) {
        check.takesOnly("channel", 0, 3, n -> new TripGuard(1).channel(n, 2));
        check.takesOnly("which", 0, 2, n -> new TripGuard(1).channel(3, n));
    }

    private static void votesOfTheLastTick(Check check) {
        TripGuard x = new TripGuard(1);
        x.fault(1, 2, FrameWords.good(1, 5));
        check.same("before any tick", x.votes(2, 1), 0);
        x.tick();
        check.same("in tick 1", x.votes(2, 1), 0);
        x.fault(1, 2, FrameWords.good(2, 2));
        x.tick();
        check.same("in tick 2", x.votes(2, 1), 5);
        x.bypass(1);
        check.same("bypassed behind it", x.votes(2, 1), 5);
        x.tick();
        check.same("in tick 3", x.votes(2, 1), 2);
        check.same("the other way round", x.votes(1, 2), 0);
        x.tick();
        check.same("in tick 4", x.votes(2, 1), 0);
    }

    private static void badVotes(Check check) {
        check.takesOnly("train", 0, 3, n -> new TripGuard(1).votes(n, 3));
        check.takesOnly("channel", 0, 3, n -> new TripGuard(1).votes(3, n));
    }

    private static void demandsOfTheLastTick(Check check) {
        check.same("before any tick", new TripGuard(1).demands(3), 0);
        for (int demands = 0; demands < 8; demands++) {
            TripGuard x = tripped(4, demands);
            check.same("in tick 2", x.demands(2), demands);
            check.same("of another train", x.demands(1), 0);
            x.bypass(0);
            check.same("bypassed behind it", x.demands(2), demands);
            x.tick();
            check.same("in tick 3", x.demands(2), 0);
        }
    }

    private static void latchedBits(Check check) {
        int[] due = {0, 1, 3, 11, 5, 5, 7, 15};
        for (int demands = 0; demands < 8; demands++) {
            TripGuard x = tripped(8, demands);
            check.same("with the demands " + demands, x.latched(3), due[demands]);
            check.same("of another train", x.latched(2), 0);
            x.tick();
            check.same("without a demand", x.latched(3), due[demands]);
        }
    }

    private static void twoBreakers(Check check) {
        for (int trains = 0; trains < 16; trains++) {
            TripGuard x = tripped(trains, 1);
            int open = Integer.bitCount(trains);
            check.same("trains " + trains, x.tripped() ? 1 : 0, open >= 2 ? 1 : 0);
            x.tick();
            check.same("trains " + trains + " without a demand", x.tripped() ? 1 : 0, open >= 2 ? 1 : 0);
            for (int t = 0; t < 4; t++) {
                if ((trains >> t & 1) != 0) {
                    x.reset(t);
                    open--;
                    check.same("train " + t + " reset, " + open + " open", x.tripped() ? 1 : 0, open >= 2 ? 1 : 0);
                }
            }
        }
    }
}
