/** The boundary cases of the second step of a tick (frames and demands), a test for each sentence. */
public final class BoundaryVotingTest {
    private static final int NOT_GOOD = 0xFFFFFF;

    public static void main(String[] args) {
        Check check = new Check();
        check.sentence("is GOOD if its first byte is the lowest byte of the time then", () -> lowestByte(check));
        check.sentence("and its third byte is its CHECK", () -> thirdByte(check));
        check.sentence("In tick 1 nothing was sent: what would come is good, and has no bits", () -> firstTick(check));
        check.sentence("the train has of this channel the bits 0 .. 2 of its second byte as votes",
                () -> secondByte(check));
        check.sentence("otherwise all three votes, and event 5 is recorded (train, channel)", () -> notGood(check));
        check.sentence("the train has a DEMAND if two or more of the channels that are not bypassed have this vote "
                + "there", () -> twoOrMore(check));
        check.sentence("A demand that was not there in the tick before: event 6 (train, parameter)",
                () -> newDemands(check));
        check.sentence("If the train has any demand, its BREAKER is open from now on: if it was not, event 7 "
                + "(train, 0)", () -> breaker(check));
        check.sentence("FUNCTION 0 runs from now on if there is a demand of parameter 1, function 1 if of parameter 2, "
                + "function 2 if of the parameters 0 and 1", () -> functions(check));
        check.sentence("those that did not run, event 8 (train, function)", () -> functionEvents(check));
        check.finish();
    }

    /** Whether train 2 finds the frame good that channel 1 sends to it in tick n. */
    private static int goodInTick(int n, int word) {
        TripGuard x = new TripGuard(1);
        Check.ticks(x, n - 1);
        x.fault(1, 2, word);
        Check.ticks(x, 2);
        return 1 - x.figure(2);
    }

    private static void lowestByte(Check check) {
        int[] times = {1, 2, 127, 128, 254, 255, 256, 257, 258, 400, 508};
        for (int n : times) {
            check.same("the lowest byte of " + n, goodInTick(n, FrameWords.good(n, 0)), 1);
            check.same("one less than " + n, goodInTick(n, FrameWords.good(n - 1, 0)), 0);
            check.same("one more than " + n, goodInTick(n, FrameWords.good(n + 1, 0)), 0);
            check.same("half a turn from " + n, goodInTick(n, FrameWords.good(n + 128, 0)), 0);
        }
        check.same("0 in tick 256", goodInTick(256, 0), 1);
        check.same("0 in tick 255", goodInTick(255, 0), 0);
        check.same("1 in tick 257", goodInTick(257, 0x150001), 1);
        TripGuard x = new TripGuard(1);
        Check.ticks(x, 511);
        check.same("no frame is bad in 511 ticks", x.figure(2), 0);
    }

    private static void thirdByte(Check check) {
        for (int second : new int[] {0, 1, 7, 8, 63, 128, 255}) {
            int right = FrameWords.check(1, second);
            for (int third = 0; third < 256; third++) {
                check.same("01 " + second + " " + third, goodInTick(1, 1 | second << 8 | third << 16),
                        third == right ? 1 : 0);
            }
        }
    }

    private static void firstTick(Check check) {
        TripGuard x = new TripGuard(1);
        Check.senseAll(x, 0, 0);
        for (int t = 0; t < 4; t++) {
            for (int c = 0; c < 4; c++) {
                x.fault(c, t, NOT_GOOD);
            }
        }
        x.test(0, 0);
        check.same("tick 1: the readings alone", x.tick(), 4);
        check.same("no frame was bad", x.figure(2), 0);
        for (int t = 0; t < 4; t++) {
            for (int c = 0; c < 4; c++) {
                check.same("votes(" + t + ", " + c + ")", x.votes(t, c), 0);
            }
            check.same("demands(" + t + ")", x.demands(t), 0);
        }
        check.same("the test is under way", x.figure(6), 0);
        x.tick();
        check.same("in tick 2 something was sent", x.figure(2), 16);
    }

    private static void secondByte(Check check) {
        for (int second = 0; second < 256; second++) {
            TripGuard x = new TripGuard(1);
            x.fault(3, 0, FrameWords.good(1, second));
            x.tick();
            check.same("events with " + second, x.tick(), 0);
            check.same("votes with " + second, x.votes(0, 3), second & 7);
        }
    }

    private static void notGood(Check check) {
        for (int t = 0; t < 4; t++) {
            for (int c = 0; c < 4; c++) {
                for (int word : new int[] {0, NOT_GOOD, 0x150002, 0x140001}) {
                    TripGuard x = new TripGuard(1);
                    x.fault(c, t, word);
                    x.tick();
                    check.same("one event", x.tick(), 1);
                    check.same("event", Check.events(x, 0), "2:5(" + t + "," + c + ")");
                    check.same("votes", x.votes(t, c), 7);
                    check.same("not at another train", x.votes((t + 1) % 4, c), 0);
                    check.same("not of another channel", x.votes(t, (c + 1) % 4), 0);
                    check.same("a tick later", x.tick(), 0);
                    check.same("votes a tick later", x.votes(t, c), 0);
                }
            }
        }
    }

    private static void twoOrMore(Check check) {
        for (int bypassed = -1; bypassed < 4; bypassed++) {
            for (int voting = 0; voting < 16; voting++) {
                int counted = bypassed < 0 ? voting : voting & ~(1 << bypassed);
                for (int p = 0; p < 3; p++) {
                    int due = Integer.bitCount(counted) >= 2 ? 1 << p : 0;
                    check.same("channels " + voting + " vote for " + p + ", " + bypassed + " is bypassed",
                            demandsOf(bypassed, voting, 1 << p), due);
                }
            }
        }
        TripGuard x = new TripGuard(1);
        for (int c = 0; c < 3; c++) {
            x.fault(c, 1, FrameWords.good(1, 1 << c));
        }
        Check.ticks(x, 2);
        check.same("one vote for each parameter", x.demands(1), 0);
        TripGuard y = new TripGuard(1);
        y.fault(0, 1, FrameWords.good(1, 1));
        y.fault(0, 2, FrameWords.good(1, 1));
        Check.ticks(y, 2);
        check.same("one vote at each of two trains", y.demands(1) + y.demands(2), 0);
    }

    /** The demands of train 3 when these channels tell it these votes. */
    private static int demandsOf(int bypassed, int voting, int votes) {
        TripGuard x = new TripGuard(1);
        if (bypassed >= 0) {
            x.bypass(bypassed);
        }
        tell(x, voting, votes);
        Check.ticks(x, 2);
        return x.demands(3);
    }

    /** These channels tell train 3 these votes in the next tick. */
    private static void tell(TripGuard x, int voting, int votes) {
        for (int c = 0; c < 4; c++) {
            if ((voting >> c & 1) != 0) {
                x.fault(c, 3, FrameWords.good(x.figure(0) + 1, votes));
            }
        }
    }

    private static void newDemands(Check check) {
        for (int p = 0; p < 3; p++) {
            TripGuard x = new TripGuard(1);
            tell(x, 3, 1 << p);
            x.tick();
            tell(x, 12, 1 << p);
            x.tick();
            check.same("there in tick 2", eventsOfKind(x, 6), "2:6(3," + p + ")");
            x.tick();
            check.same("of other channels, but the same demand", eventsOfKind(x, 6), "2:6(3," + p + ")");
            tell(x, 15, 1 << p);
            x.tick();
            check.same("not there in tick 4", x.demands(3), 0);
            x.tick();
            check.same("there again in tick 5", eventsOfKind(x, 6), "2:6(3," + p + ") 5:6(3," + p + ")");
        }
        TripGuard y = new TripGuard(1);
        tell(y, 3, 1);
        y.tick();
        tell(y, 3, 7);
        Check.ticks(y, 2);
        check.same("two more beside the first", eventsOfKind(y, 6), "2:6(3,0) 3:6(3,1) 3:6(3,2)");
    }

    private static String eventsOfKind(TripGuard x, int kind) {
        StringBuilder text = new StringBuilder();
        for (String event : Check.events(x, 0).split(" ")) {
            if (event.contains(":" + kind + "(")) {
                text.append(text.length() > 0 ? " " : "").append(event);
            }
        }
        return text.toString();
    }

    private static void breaker(Check check) {
        for (int votes = 0; votes < 8; votes++) {
            TripGuard x = new TripGuard(1);
            tell(x, 5, votes);
            x.tick();
            check.same("sent, but not received", x.latched(3), 0);
            x.tick();
            check.same("open with the demands " + votes, x.latched(3) & 1, votes == 0 ? 0 : 1);
            Check.ticks(x, 2);
            check.same("from then on", x.latched(3) & 1, votes == 0 ? 0 : 1);
            tell(x, 10, votes);
            Check.ticks(x, 2);
            check.same("one event", eventsOfKind(x, 7), votes == 0 ? "" : "2:7(3,0)");
            if (votes != 0) {
                x.tick();
                x.reset(3);
                tell(x, 6, votes);
                Check.ticks(x, 2);
                check.same("one more when it was closed", eventsOfKind(x, 7), "2:7(3,0) 9:7(3,0)");
            }
        }
    }

    private static void functions(Check check) {
        int[] due = {0, 0, 1, 5, 2, 2, 3, 7};
        for (int votes = 0; votes < 8; votes++) {
            TripGuard x = new TripGuard(1);
            tell(x, 9, votes);
            Check.ticks(x, 2);
            check.same("demands", x.demands(3), votes);
            check.same("functions with the demands " + votes, x.latched(3) >> 1, due[votes]);
            Check.ticks(x, 2);
            check.same("no demand any more", x.demands(3), 0);
            check.same("functions from then on", x.latched(3) >> 1, due[votes]);
        }
        TripGuard y = new TripGuard(1);
        tell(y, 3, 1);
        y.tick();
        tell(y, 3, 2);
        Check.ticks(y, 3);
        check.same("demands of 0 and of 1, but not in one tick", y.latched(3) >> 1, 1);
    }

    private static void functionEvents(Check check) {
        TripGuard x = new TripGuard(1);
        tell(x, 3, 2);
        x.tick();
        tell(x, 3, 3);
        x.tick();
        tell(x, 3, 7);
        x.tick();
        tell(x, 3, 7);
        Check.ticks(x, 2);
        check.same("each once", eventsOfKind(x, 8), "2:8(3,0) 3:8(3,2) 4:8(3,1)");
        x.tick();
        x.reset(3);
        tell(x, 3, 7);
        Check.ticks(x, 2);
        check.same("again behind a reset", eventsOfKind(x, 8),
                "2:8(3,0) 3:8(3,2) 4:8(3,1) 8:8(3,0) 8:8(3,1) 8:8(3,2)");
    }
}
