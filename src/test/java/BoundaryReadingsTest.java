/** The boundary cases of the first step of a tick (WRONG readings and bistables), a test for each sentence. */
public final class BoundaryReadingsTest {
    /** For each parameter a right reading that is beyond, with the other two as at first. */
    private static final int[] BEYOND = {3001, 1199, 2901};
    /** Beyond too, but more than 400 away from the one above. */
    private static final int[] BEYOND_BUT_FAR = {3402, 798, 3302};
    /** Inside, and less than 400 away from BEYOND. */
    private static final int[] INSIDE = {2959, 1241, 2859};
    /** Neither beyond nor inside. */
    private static final int[] AT_THE_LIMIT = {3000, 1200, 2900};
    private static final int[] FIRST = {2000, 2200, 1500};

    public static void main(String[] args) {
        Check check = new Check();
        check.sentence("the reading is WRONG in this tick if it is not 50 .. 4000", () -> range(check));
        check.sentence("or it differs by more than 400 from what it was in the tick before", () -> steps(check));
        check.sentence("(if there was one)", () -> noTickBefore(check));
        check.sentence("or this is the 13th tick or a later one", () -> thirteenthTick(check));
        check.sentence("one after the other (behind the last in which it was new), in which it is not new",
                () -> oneAfterTheOther(check));
        check.sentence("it is NEW in a tick if it was sensed since the tick before", () -> newInOneTick(check));
        check.sentence("all are new in tick 1", () -> newInTheFirstTick(check));
        check.sentence("If it is WRONG and was not in the tick before: event 1; if it is not, and was: event 2",
                () -> wrongEvents(check));
        check.sentence("if the reading is WRONG, the count of ticks beyond becomes 0", () -> wrongStartsAgain(check));
        check.sentence("Otherwise this count grows by 1 if it is beyond, else it becomes 0", () -> count(check));
        check.sentence("if the bistable is not set and the count is the DEBOUNCE or more, it is set: event 3",
                () -> debounce(check));
        check.sentence("else if it is set and the reading is inside, it is not set any more: event 4",
                () -> notSetAnyMore(check));
        check.sentence("if the reading is WRONG, .. Otherwise .. else if it is set and the reading is inside",
                () -> wrongLeavesTheBistable(check));
        check.sentence("For each channel, and in it each parameter: the reading is WRONG .. Then the BISTABLE",
                () -> parameterByParameter(check));
        check.sentence("(Events 1 to 4 with the channel and the parameter.)", () -> numbersOfEvents(check));
        check.sentence("The channel's VOTES have bit p if the bistable of parameter p is set or its reading is WRONG",
                () -> votes(check));
        check.finish();
    }

    private static void range(Check check) {
        int[][] due = {{0, 1}, {1, 1}, {48, 1}, {49, 1}, {50, 0}, {51, 0}, {3999, 0}, {4000, 0}, {4001, 1}, {4002, 1},
            {4095, 1}};
        for (int[] d : due) {
            for (int c = 0; c < 4; c++) {
                for (int p = 0; p < 3; p++) {
                    TripGuard x = new TripGuard(8);
                    x.sense(c, p, d[0]);
                    x.tick();
                    check.same(d[0] + " for " + c + ", " + p, x.channel(c, 1), d[1] << p);
                    x.tick();
                    check.same(d[0] + " for " + c + ", " + p + " a tick later", x.channel(c, 1), d[1] << p);
                }
            }
        }
    }

    /** The wrong bit of a parameter in tick 2, the reading being from in tick 1 and to in tick 2. */
    private static int wrongByStep(int channel, int parameter, int from, int to) {
        TripGuard x = new TripGuard(8);
        x.sense(channel, parameter, from);
        x.tick();
        x.sense(channel, parameter, to);
        x.tick();
        return x.channel(channel, 1) >> parameter;
    }

    private static void steps(Check check) {
        int[][] due = {{1000, 1399, 0}, {1000, 1400, 0}, {1000, 1401, 1}, {1400, 1001, 0}, {1400, 1000, 0},
            {1400, 999, 1}, {50, 450, 0}, {50, 451, 1}, {3600, 4000, 0}, {4000, 3600, 0}, {4000, 3599, 1}, {50, 4000, 1},
            {4000, 50, 1}, {2000, 2000, 0}, {4095, 3700, 0}, {4095, 3694, 1}, {0, 400, 0}, {0, 401, 1}};
        for (int[] d : due) {
            for (int c = 0; c < 4; c++) {
                for (int p = 0; p < 3; p++) {
                    check.same("from " + d[0] + " to " + d[1], wrongByStep(c, p, d[0], d[1]), d[2]);
                }
            }
        }
        TripGuard x = new TripGuard(8);
        x.tick();
        x.sense(0, 0, 2400);
        x.sense(0, 0, 2800);
        x.tick();
        check.same("two steps of 400 between two ticks", x.channel(0, 1), 1);
        x.tick();
        check.same("the same in the next tick", x.channel(0, 1), 0);
        x.sense(0, 0, 2399);
        x.tick();
        x.sense(0, 0, 2799);
        x.tick();
        check.same("400 from a reading that was wrong", x.channel(0, 1), 0);
        x.sense(0, 0, 3500);
        x.sense(0, 0, 2799);
        x.tick();
        check.same("away and back between two ticks", x.channel(0, 1), 0);
    }

    private static void noTickBefore(Check check) {
        for (int p = 0; p < 3; p++) {
            for (int value : new int[] {50, 4000}) {
                TripGuard x = new TripGuard(8);
                x.sense(2, p, value);
                x.tick();
                check.same("any step before tick 1, to " + value, x.channel(2, 1), 0);
            }
        }
    }

    private static int wrongBit(TripGuard x, int channel, int parameter) {
        return x.channel(channel, 1) >> parameter & 1;
    }

    private static void thirteenthTick(Check check) {
        for (int p = 0; p < 3; p++) {
            for (int last = 1; last <= 20; last += 3) {
                TripGuard x = new TripGuard(8);
                for (int n = 1; n <= last; n++) {
                    x.sense(3, p, FIRST[p]);
                    x.tick();
                }
                for (int n = 1; n <= 20; n++) {
                    x.tick();
                    check.same("new in tick " + last + ", tick " + n + " behind it", wrongBit(x, 3, p), n >= 13 ? 1 : 0);
                }
            }
        }
    }

    private static void oneAfterTheOther(Check check) {
        for (int before = 1; before <= 12; before++) {
            TripGuard x = new TripGuard(8);
            Check.ticks(x, 1 + before);
            x.sense(1, 1, FIRST[1]);
            Check.ticks(x, 1 + 12);
            check.same(before + " not new, one new, 12 not new", wrongBit(x, 1, 1), 0);
            x.tick();
            check.same(before + " not new, one new, 13 not new", wrongBit(x, 1, 1), 1);
        }
        TripGuard x = new TripGuard(8);
        Check.ticks(x, 20);
        x.sense(1, 1, FIRST[1]);
        Check.ticks(x, 1 + 12);
        check.same("wrong, one new, 12 not new", wrongBit(x, 1, 1), 0);
        x.tick();
        check.same("wrong, one new, 13 not new", wrongBit(x, 1, 1), 1);
    }

    private static void newInOneTick(Check check) {
        TripGuard x = new TripGuard(8);
        Check.ticks(x, 13);
        x.sense(0, 2, FIRST[2]);
        x.sense(0, 2, FIRST[2]);
        x.tick();
        check.same("sensed since tick 13: alone not wrong in tick 14", x.channel(0, 1), 3);
        check.same("of another channel", x.channel(1, 1), 7);
        Check.ticks(x, 12);
        check.same("12 ticks behind", x.channel(0, 1), 3);
        x.tick();
        check.same("sensed twice is new in one tick only", x.channel(0, 1), 7);
        x.sense(0, 2, FIRST[2]);
        check.same("sensed, but no tick yet", x.channel(0, 1), 7);
        x.tick();
        check.same("new again", x.channel(0, 1), 3);
    }

    private static void newInTheFirstTick(Check check) {
        TripGuard x = new TripGuard(8);
        x.sense(0, 0, 2000);
        Check.ticks(x, 13);
        check.same("no event up to tick 13", x.figure(1), 0);
        x.tick();
        for (int c = 0; c < 4; c++) {
            check.same("sensed before tick 1 or not, channel " + c + " in tick 14", x.channel(c, 1), 7);
        }
        check.same("events", x.figure(1), 12);
    }

    private static void wrongEvents(Check check) {
        for (int p = 0; p < 3; p++) {
            TripGuard x = new TripGuard(8);
            x.sense(1, p, 49);
            check.same("wrong in tick 1", x.tick(), 1);
            check.same("wrong still", x.tick(), 0);
            x.sense(1, p, 4001);
            check.same("wrong in another way", x.tick(), 0);
            x.sense(1, p, 4000);
            check.same("not wrong", x.tick(), 1);
            check.same("not wrong still", x.tick(), 0);
            x.sense(1, p, 4001);
            check.same("wrong again", x.tick(), 1);
            String numbers = "(1," + p + ")";
            check.same("events", Check.events(x, 0), "1:1" + numbers + " 4:2" + numbers + " 6:1" + numbers);
        }
    }

    private static void wrongStartsAgain(Check check) {
        for (int p = 0; p < 3; p++) {
            TripGuard x = new TripGuard(2);
            x.sense(0, p, BEYOND[p]);
            x.tick();
            x.sense(0, p, BEYOND_BUT_FAR[p]);
            x.tick();
            check.same("wrong and beyond", x.channel(0, 1), 1 << p);
            check.same("not set by it", x.channel(0, 2), 0);
            x.tick();
            check.same("one tick beyond behind it", x.channel(0, 2), 0);
            x.tick();
            check.same("two ticks beyond behind it", x.channel(0, 2), 1 << p);
        }
        TripGuard y = new TripGuard(1);
        y.sense(0, 0, 4001);
        y.tick();
        check.same("debounce 1, wrong and beyond", y.channel(0, 2), 0);
    }

    private static void count(Check check) {
        for (int p = 0; p < 3; p++) {
            TripGuard x = new TripGuard(3);
            for (int round = 0; round < 4; round++) {
                x.sense(2, p, BEYOND[p]);
                Check.ticks(x, 2);
                x.sense(2, p, AT_THE_LIMIT[p]);
                x.tick();
            }
            check.same("never three ticks beyond, one after the other", x.channel(2, 2), 0);
            x.sense(2, p, BEYOND[p]);
            Check.ticks(x, 2);
            check.same("two", x.channel(2, 2), 0);
            x.tick();
            check.same("three", x.channel(2, 2), 1 << p);
        }
    }

    private static void debounce(Check check) {
        for (int d = 1; d <= 8; d++) {
            for (int p = 0; p < 3; p++) {
                TripGuard x = new TripGuard(d);
                x.sense(3, p, BEYOND[p]);
                for (int n = 1; n <= 12; n++) {
                    check.same("events of tick " + n + " with debounce " + d, x.tick(), n == d ? 1 : 0);
                    check.same("set in tick " + n + " with debounce " + d, x.channel(3, 2), n >= d ? 1 << p : 0);
                }
                check.same("the event", Check.events(x, 0), d + ":3(3," + p + ")");
            }
        }
    }

    private static void notSetAnyMore(Check check) {
        for (int p = 0; p < 3; p++) {
            TripGuard x = new TripGuard(2);
            x.sense(0, p, INSIDE[p]);
            check.same("inside, but not set", x.tick(), 0);
            x.sense(0, p, BEYOND[p]);
            Check.ticks(x, 2);
            x.sense(0, p, AT_THE_LIMIT[p]);
            check.same("neither beyond nor inside", x.tick(), 0);
            check.same("it stays set", x.channel(0, 2), 1 << p);
            x.sense(0, p, INSIDE[p]);
            check.same("inside: no debounce", x.tick(), 1);
            check.same("not set", x.channel(0, 2), 0);
            check.same("inside still", x.tick(), 0);
            String numbers = "(0," + p + ")";
            check.same("events", Check.events(x, 0), "3:3" + numbers + " 5:4" + numbers);
        }
    }

    private static void wrongLeavesTheBistable(Check check) {
        for (int c = 0; c < 4; c++) {
            for (int p = 0; p < 3; p++) {
                TripGuard x = new TripGuard(1);
                x.sense(c, p, BEYOND[p]);
                x.tick();
                x.sense(c, p, FIRST[p]);
                check.same("wrong and inside: event 1 alone", x.tick(), 1);
                check.same("it is wrong", x.channel(c, 1), 1 << p);
                check.same("it stays set", x.channel(c, 2), 1 << p);
                check.same("inside and not wrong: events 2 and 4", x.tick(), 2);
                check.same("not set", x.channel(c, 2), 0);
                String numbers = "(" + c + "," + p + ")";
                check.same("events", Check.events(x, 0),
                        "1:3" + numbers + " 2:1" + numbers + " 3:2" + numbers + " 3:4" + numbers);
            }
        }
        TripGuard stale = new TripGuard(1);
        stale.sense(0, 2, 2901);
        Check.ticks(stale, 13);
        stale.sense(0, 0, 1000);
        stale.sense(0, 1, 2200);
        stale.tick();
        check.same("inside by the limit, but not new for 13 ticks", stale.limit(0, 2), 3300);
        check.same("wrong by the step and by age", stale.channel(0, 1), 5);
        check.same("it stays set", stale.channel(0, 2), 4);
        stale.sense(0, 2, 2901);
        stale.tick();
        check.same("new and inside", stale.channel(0, 2), 0);
    }

    private static void parameterByParameter(Check check) {
        TripGuard x = new TripGuard(1);
        // Of two channels one is bypassed, so that no demand comes between their events and the last ones.
        x.bypass(3);
        for (int c = 1; c < 4; c += 2) {
            x.sense(c, 0, 4001);
            x.sense(c, 1, 49);
            x.sense(c, 2, 1000);
        }
        x.tick();
        check.same("wrong", Check.events(x, 1), "1:1(1,0) 1:1(1,1) 1:1(3,0) 1:1(3,1)");
        for (int c = 1; c < 4; c += 2) {
            x.sense(c, 0, 4000);
            x.sense(c, 1, 50);
            x.sense(c, 2, 1013);
        }
        check.same("events", x.tick(), 10);
        check.same("not wrong, and set at once", Check.events(x, 5), "2:2(1,0) 2:3(1,0) 2:2(1,1) 2:3(1,1) 2:3(1,2)"
                + " 2:2(3,0) 2:3(3,0) 2:2(3,1) 2:3(3,1) 2:3(3,2)");
    }

    private static void numbersOfEvents(Check check) {
        for (int c = 0; c < 4; c++) {
            for (int p = 0; p < 3; p++) {
                TripGuard x = new TripGuard(1);
                x.sense(c, p, BEYOND[p]);
                x.tick();
                x.sense(c, p, BEYOND_BUT_FAR[p]);
                x.tick();
                x.sense(c, p, BEYOND[p]);
                x.tick();
                x.tick();
                x.sense(c, p, INSIDE[p]);
                x.tick();
                String numbers = "(" + c + "," + p + ")";
                check.same("events", Check.events(x, 0),
                        "1:3" + numbers + " 2:1" + numbers + " 4:2" + numbers + " 5:4" + numbers);
            }
        }
    }

    private static void votes(Check check) {
        for (int c = 0; c < 4; c++) {
            for (int p = 0; p < 3; p++) {
                TripGuard x = new TripGuard(1);
                x.tick();
                check.same("neither", x.channel(c, 0), 0);
                TripGuard set = new TripGuard(1);
                set.sense(c, p, BEYOND[p]);
                set.tick();
                check.same("set", set.channel(c, 0), 1 << p);
                check.same("set alone", set.channel(c, 1), 0);
                set.sense(c, p, BEYOND_BUT_FAR[p]);
                set.tick();
                check.same("both", set.channel(c, 0), 1 << p);
                check.same("both: wrong", set.channel(c, 1), 1 << p);
                check.same("both: set", set.channel(c, 2), 1 << p);
                TripGuard wrong = new TripGuard(1);
                wrong.sense(c, p, 4001);
                wrong.tick();
                check.same("wrong", wrong.channel(c, 0), 1 << p);
                check.same("wrong alone", wrong.channel(c, 2), 0);
            }
        }
    }
}
