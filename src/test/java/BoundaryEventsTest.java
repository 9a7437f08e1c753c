import java.util.NoSuchElementException;

/** The boundary cases of the events and of promises 15 and 16, a test for each sentence. */
public final class BoundaryEventsTest {
    public static void main(String[] args) {
        Check check = new Check();
        check.sentence("EVENTS have numbers 0, 1, .. from the first one on", () -> numbers(check));
        check.sentence("the last 40 are kept", () -> lastForty(check));
        check.sentence("the last 40 are kept (of more than 40 in one tick)", () -> moreThanFortyAtOnce(check));
        check.sentence("how many events were recorded in it (of 1 to 10; not those between ticks)",
                () -> eventsOfATick(check));
        check.sentence("what = 0: its time, 1: its kind, 2, 3: its two numbers", () -> columns(check));
        check.sentence("NoSuchElementException, first: it is not kept", () -> notKept(check));
        check.sentence("or there is none yet (or below 0)", () -> noneYet(check));
        check.sentence("event: IllegalArgumentException: what is not 0 .. 3", () -> whatOutside(check));
        check.sentence("1: how many events there were", () -> howMany(check));
        check.sentence("2: how many frames were not GOOD (at all trains, bypassed channels' too)",
                () -> badFrames(check));
        check.sentence("3: how many tests were passed; 4: how many were not", () -> testsPassedOrNot(check));
        check.sentence("5: the channel that is bypassed, -1 without", () -> bypassedOrNone(check));
        check.sentence("6: the channel whose test is under way, -1 without", () -> underTestOrNone(check));
        check.sentence("figure: IllegalArgumentException: k is not 0 .. 6",
                () -> check.takesOnly("figure", 0, 6, k -> new TripGuard(1).figure(k)));
        check.finish();
    }

    /** Records so many events behind the last tick: 11 and 12, one after the other, with channel n / 2 % 4. */
    private static void record(TripGuard x, int count) {
        for (int n = 0; n < count; n++) {
            if (n % 2 == 0) {
                x.bypass(n / 2 % 4);
            } else {
                x.restore();
            }
        }
    }

    private static void none(Check check, TripGuard x, int number) {
        for (int what : new int[] {0, 3, -1, 4}) {
            check.refused("event(" + number + ", " + what + ")", NoSuchElementException.class,
                    () -> x.event(number, what));
        }
    }

    private static void numbers(Check check) {
        TripGuard x = new TripGuard(1);
        none(check, x, 0);
        x.bypass(3);
        check.same("the first one is 0", x.event(0, 1), 11);
        none(check, x, 1);
        x.restore();
        check.same("the second one is 1", x.event(1, 1), 12);
        check.same("the first one is 0 still", x.event(0, 1), 11);
        none(check, x, 2);
    }

    private static void lastForty(Check check) {
        for (int count : new int[] {1, 39, 40, 41, 42, 79, 80, 81, 120, 121, 250}) {
            TripGuard x = new TripGuard(1);
            record(x, count);
            int oldest = Math.max(0, count - 40);
            for (int n = oldest; n < count; n++) {
                check.same("kind of " + n + " of " + count, x.event(n, 1), n % 2 == 0 ? 11 : 12);
                check.same("channel of " + n + " of " + count, x.event(n, 2), n / 2 % 4);
            }
            if (oldest > 0) {
                none(check, x, oldest - 1);
                none(check, x, 0);
            }
            none(check, x, count);
        }
    }

    /** Tick 2 makes 12 readings right, finds 16 bad frames and trips everything: 56 events. */
    private static TripGuard withAFullTick(Check check) {
        TripGuard x = new TripGuard(1);
        for (int p = 0; p < 3; p++) {
            Check.senseAll(x, p, 4001);
        }
        for (int i = 0; i < 16; i++) {
            x.fault(i / 4, i % 4, 0);
        }
        check.same("tick 1", x.tick(), 12);
        Check.senseAll(x, 0, 3700);
        Check.senseAll(x, 1, 3700);
        Check.senseAll(x, 2, 3700);
        check.same("tick 2", x.tick(), 12 + 8 + 16 + 4 * 7);
        return x;
    }

    private static void moreThanFortyAtOnce(Check check) {
        TripGuard x = withAFullTick(check);
        int total = 12 + 64;
        check.same("how many there were", x.figure(1), total);
        none(check, x, total - 41);
        none(check, x, total);
        check.same("the last eleven", Check.events(x, total - 11), "2:5(3,0) 2:5(3,1) 2:5(3,2) 2:5(3,3) 2:6(3,0) "
                + "2:6(3,1) 2:6(3,2) 2:7(3,0) 2:8(3,0) 2:8(3,1) 2:8(3,2)");
        check.same("the oldest kept is a part of train 0's", x.event(total - 40, 1), 6);
    }

    private static void eventsOfATick(Check check) {
        TripGuard x = new TripGuard(1);
        x.bypass(0);
        x.restore();
        check.same("none in it, two before it", x.tick(), 0);
        x.bypass(0);
        x.sense(1, 0, 49);
        check.same("one in it, one before it", x.tick(), 1);
        TripGuard y = withAFullTick(check);
        Check.ticks(y, 3);
        check.same("a quiet tick", y.tick(), 0);
        TripGuard z = new TripGuard(1);
        for (int t = 0; t < 4; t++) {
            z.fault(0, t, 0);
            z.fault(1, t, 0);
        }
        z.test(3, 0);
        z.tick();
        check.same("bad frames, trips and the end of a test", z.tick(), 8 + 4 * 7 + 1);
        z.tick();
        z.reset(0);
        z.reset(3);
        check.same("resets are not of a tick", z.tick(), 0);
    }

    private static void columns(Check check) {
        TripGuard x = new TripGuard(1);
        Check.ticks(x, 2);
        x.fault(1, 3, 0);
        Check.ticks(x, 2);
        int[] due = {4, 5, 3, 1};
        for (int what = 0; what < 4; what++) {
            check.same("event(0, " + what + ")", x.event(0, what), due[what]);
        }
    }

    private static void notKept(Check check) {
        TripGuard x = new TripGuard(1);
        record(x, 41);
        none(check, x, 0);
        check.same("the one behind it", x.event(1, 1), 12);
        record(x, 0);
        x.restore();
        none(check, x, 1);
        check.same("the one behind it", x.event(2, 1), 11);
    }

    private static void noneYet(Check check) {
        int[] below = {-1, -2, -39, -40, -41, -80, Integer.MIN_VALUE, Integer.MIN_VALUE + 1};
        for (int count : new int[] {0, 1, 40, 41}) {
            TripGuard x = new TripGuard(1);
            record(x, count);
            for (int number : below) {
                none(check, x, number);
            }
            for (int more : new int[] {0, 1, 39, 40, 41}) {
                none(check, x, count + more);
            }
            none(check, x, Integer.MAX_VALUE);
        }
    }

    private static void whatOutside(Check check) {
        TripGuard x = new TripGuard(1);
        record(x, 45);
        for (int number : new int[] {5, 6, 44}) {
            check.takesOnly("what of event " + number, 0, 3, what -> x.event(number, what));
        }
    }

    private static void howMany(Check check) {
        TripGuard x = new TripGuard(1);
        check.same("none", x.figure(1), 0);
        for (int n = 1; n <= 100; n++) {
            record(x, n % 2);
            if (n % 2 == 0) {
                x.restore();
            }
            check.same("those that are not kept, too", x.figure(1), n);
        }
    }

    private static void badFrames(Check check) {
        for (int c = 0; c < 4; c++) {
            TripGuard x = new TripGuard(1);
            x.bypass(c);
            for (int t = 0; t < 4; t++) {
                x.fault(c, t, 0);
            }
            x.fault((c + 1) % 4, 0, 0);
            x.fault((c + 1) % 4, 1, FrameWords.good(1, 7));
            x.tick();
            check.same("none received yet", x.figure(2), 0);
            x.tick();
            check.same("four of the bypassed channel, one of another, none for a good one", x.figure(2), 5);
            x.tick();
            check.same("as many still", x.figure(2), 5);
        }
    }

    private static void testsPassedOrNot(Check check) {
        TripGuard x = new TripGuard(1);
        for (int n = 0; n < 12; n++) {
            check.same("passed", x.figure(3), (n + 1) / 2);
            check.same("not passed", x.figure(4), n / 2);
            x.test(n % 4, n % 3);
            if (n % 2 == 1) {
                x.fault(n % 4, n % 3, 0);
            }
            x.tick();
            check.same("passed, one being under way", x.figure(3), (n + 1) / 2);
            check.same("not passed, one being under way", x.figure(4), n / 2);
            x.tick();
        }
    }

    private static void bypassedOrNone(Check check) {
        TripGuard x = new TripGuard(1);
        check.same("at first", x.figure(5), -1);
        for (int c = 0; c < 4; c++) {
            x.bypass(c);
            check.same("bypassed", x.figure(5), c);
            x.tick();
            check.same("a tick later", x.figure(5), c);
            x.restore();
            check.same("restored", x.figure(5), -1);
        }
    }

    private static void underTestOrNone(Check check) {
        TripGuard x = new TripGuard(1);
        check.same("at first", x.figure(6), -1);
        for (int c = 0; c < 4; c++) {
            x.test(c, 2);
            check.same("at once", x.figure(6), c);
            x.tick();
            check.same("a tick later", x.figure(6), c);
            x.tick();
            check.same("ended", x.figure(6), -1);
        }
    }
}
