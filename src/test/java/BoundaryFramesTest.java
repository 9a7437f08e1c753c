/** The boundary cases of the third and fourth step of a tick (tests and frames) and of the CHECK. */
public final class BoundaryFramesTest {
    private static final int NOT_GOOD = 0xFFFFFF;

    public static void main(String[] args) {
        Check check = new Check();
        check.sentence("If a test is under way: if in the tick before its bit was sent, it ends", () -> ends(check));
        check.sentence("it is PASSED if all four trains got a GOOD frame with this bit (bit 3 + parameter) of that "
                + "channel in this tick: event 9, else event 10 (channel, parameter)", () -> passed(check));
        check.sentence("For each channel and train a frame of three bytes is sent: the lowest byte of the time",
                () -> everyTime(check));
        check.sentence("the votes, with bit 3 + p if a test of the channel and parameter p is under way",
                () -> votesWithATest(check));
        check.sentence("If a fault is set for the two, that is sent instead, and is set no more", () -> faults(check));
        check.sentence("c is 0; for each byte c = c xor byte, and then eight times: c is doubled, and if it is 256 or "
                + "more then, it is c xor 263 (in any case 0 .. 255)", () -> everyCheck(check));
        check.finish();
    }

    private static void ends(Check check) {
        for (int before : new int[] {0, 1, 5, 12, 255, 256, 257}) {
            TripGuard x = new TripGuard(1);
            Check.ticks(x, before);
            x.test(2, 1);
            check.same("under way at once", x.figure(6), 2);
            x.tick();
            check.same("its bit is sent now: under way", x.figure(6), 2);
            check.same("not passed yet", x.figure(3) + x.figure(4), 0);
            x.tick();
            check.same("its bit was sent in the tick before", x.figure(6), -1);
            check.same("it has ended", x.figure(3) + x.figure(4), 1);
            x.tick();
            check.same("it ends once", x.figure(3) + x.figure(4), 1);
        }
        TripGuard y = new TripGuard(1);
        Check.ticks(y, 13);
        check.same("no test: no event", y.figure(1), 0);
        y.test(0, 0);
        Check.ticks(y, 2);
        y.test(0, 0);
        y.tick();
        check.same("a second test waits for its own bit", y.figure(6), 0);
        y.tick();
        check.same("and ends", y.figure(6), -1);
    }

    /** How a test of channel 1 ends when these trains get this word of it instead: the event's kind. */
    private static int endOfTest(int parameter, int trains, int word) {
        TripGuard x = new TripGuard(1);
        x.test(1, parameter);
        for (int t = 0; t < 4; t++) {
            if ((trains >> t & 1) != 0) {
                x.fault(1, t, word);
            }
        }
        Check.ticks(x, 2);
        int last = x.figure(1) - 1;
        boolean fitting = x.event(last, 2) == 1 && x.event(last, 3) == parameter && x.event(last, 0) == 2;
        return fitting && x.figure(x.event(last, 1) == 9 ? 3 : 4) == 1 ? x.event(last, 1) : -1;
    }

    private static void passed(Check check) {
        for (int p = 0; p < 3; p++) {
            int bit = 8 << p;
            for (int trains = 0; trains < 16; trains++) {
                int due = trains == 0 ? 9 : 10;
                check.same("not good at " + trains, endOfTest(p, trains, NOT_GOOD), due);
                check.same("not good, but with the bit at " + trains,
                        endOfTest(p, trains, FrameWords.good(1, bit) ^ 0x010000), due);
                check.same("the bit, but of another time at " + trains,
                        endOfTest(p, trains, FrameWords.good(2, bit)), due);
                check.same("good without a bit at " + trains, endOfTest(p, trains, FrameWords.good(1, 0)), due);
                check.same("good with all bits but this at " + trains,
                        endOfTest(p, trains, FrameWords.good(1, 255 - bit)), due);
                check.same("good with this bit alone at " + trains,
                        endOfTest(p, trains, FrameWords.good(1, bit)), 9);
                check.same("good with all bits at " + trains, endOfTest(p, trains, FrameWords.good(1, 255)), 9);
            }
        }
        ofThatChannelInThisTick(check);
    }

    private static void ofThatChannelInThisTick(Check check) {
        TripGuard x = new TripGuard(1);
        x.fault(1, 0, NOT_GOOD);
        x.tick();
        x.test(1, 0);
        x.tick();
        x.fault(1, 1, NOT_GOOD);
        x.tick();
        check.same("a bad frame a tick before and one a tick later", x.figure(3), 1);
        TripGuard y = new TripGuard(1);
        y.test(1, 0);
        for (int t = 0; t < 4; t++) {
            y.fault(0, t, NOT_GOOD);
            y.fault(1, t, FrameWords.good(1, 0));
            y.fault(2, t, FrameWords.good(1, 8));
            y.fault(3, t, FrameWords.good(1, 8));
        }
        Check.ticks(y, 2);
        check.same("the bit of other channels alone", y.figure(4), 1);
    }

    private static void everyTime(Check check) {
        TripGuard x = new TripGuard(1);
        x.sense(0, 0, 4001);
        Check.ticks(x, 509);
        check.same("all frames of 508 ticks came good", x.figure(2), 0);
        check.same("with the votes", x.votes(3, 0), 7);
        for (int n : new int[] {255, 256, 257}) {
            TripGuard y = new TripGuard(1);
            Check.ticks(y, n - 13);
            Check.senseAll(y, 0, 2000);
            Check.senseAll(y, 1, 2200);
            Check.senseAll(y, 2, 1500);
            Check.ticks(y, 12);
            y.sense(2, 1, 1000);
            y.tick();
            check.same("votes of tick " + n + " are not there yet", y.votes(1, 2), 0);
            y.tick();
            check.same("votes of tick " + n + " a tick later", y.votes(1, 2) & 2, 2);
            check.same("no frame was bad", y.figure(2), 0);
        }
    }

    private static void votesWithATest(Check check) {
        for (int votes = 0; votes < 8; votes++) {
            for (int p = 0; p < 3; p++) {
                TripGuard x = new TripGuard(1);
                for (int q = 0; q < 3; q++) {
                    if ((votes >> q & 1) != 0) {
                        x.sense(1, q, 4095);
                    }
                }
                x.test(1, p);
                Check.ticks(x, 2);
                for (int t = 0; t < 4; t++) {
                    check.same("votes beside the test's bit", x.votes(t, 1), votes);
                    check.same("votes of another channel", x.votes(t, 2), 0);
                    check.same("demands", x.demands(t), 0);
                }
                check.same("no frame was bad", x.figure(2), 0);
                check.same("passed", x.figure(3), 1);
            }
        }
    }

    private static void faults(Check check) {
        TripGuard x = new TripGuard(1);
        x.fault(0, 2, FrameWords.good(1, 1));
        x.fault(0, 2, FrameWords.good(1, 6));
        x.fault(2, 0, FrameWords.good(1, 3));
        x.tick();
        check.same("set, but nothing was received", x.votes(2, 0), 0);
        check.same("tick 2", x.tick(), 0);
        check.same("the latest for the two is sent", x.votes(2, 0), 6);
        check.same("channel and train are not mistaken", x.votes(0, 2), 3);
        check.same("to no other train", x.votes(1, 0) + x.votes(3, 0) + x.votes(0, 0), 0);
        check.same("tick 3", x.tick(), 0);
        check.same("set no more", x.votes(2, 0) + x.votes(0, 2), 0);
        TripGuard y = new TripGuard(1);
        y.sense(3, 0, 0);
        y.fault(3, 3, FrameWords.good(1, 0));
        Check.ticks(y, 2);
        check.same("instead of the votes, not beside them", y.votes(3, 3), 0);
        check.same("the votes where no fault is", y.votes(2, 3), 1);
        TripGuard z = new TripGuard(1);
        z.tick();
        z.fault(1, 1, NOT_GOOD);
        Check.ticks(z, 5);
        check.same("one frame alone", z.figure(2), 1);
    }

    /** All pairs of bytes: the first as a time, sixteen second bytes at once on the sixteen links. */
    private static void everyCheck(Check check) {
        for (int time = 1; time <= 256; time++) {
            for (int from = 0; from < 256; from += 16) {
                TripGuard x = new TripGuard(1);
                Check.ticks(x, time - 1);
                for (int i = 0; i < 16; i++) {
                    x.fault(i / 4, i % 4, FrameWords.good(time, from + i));
                }
                Check.ticks(x, 2);
                check.same("bad frames of time " + time + " with second bytes from " + from, x.figure(2), 0);
            }
        }
    }
}
