/** Promise 9 and the fourth step of a tick: faults, frames and their CHECK. */
public final class P09FaultTest {
    public static void main(String[] args) {
        Check check = new Check();
        onlyTheNextFrame(check);
        checksKnownFromElsewhere(check);
        everyGoodFrame(check);
        everyBitThatTurns(check);
        onlyThreeBytes(check);
        theLatestFaultCounts(check);
        theTimeThen(check);
        theLowestByteOfTheTime(check);
        oneLinkAlone(check);
        wrongInputs(check);
        check.finish();
    }

    private static void onlyTheNextFrame(Check check) {
        TripGuard x = new TripGuard(1);
        x.fault(1, 2, 0);
        check.same("tick 1 (nothing was sent before)", x.tick(), 0);
        check.same("votes", x.votes(2, 1), 0);
        check.same("tick 2", x.tick(), 1);
        check.same("votes", x.votes(2, 1), 7);
        check.same("not good", x.figure(2), 1);
        check.same("event", Check.events(x, 0), "2:5(2,1)");
        check.same("tick 3", x.tick(), 0);
        check.same("votes", x.votes(2, 1), 0);
    }

    /** What train 3 has of channel 0 when this word is sent in tick 1; -1 if the frame was not good. */
    private static int votesOf(int word) {
        TripGuard x = new TripGuard(1);
        x.fault(0, 3, word);
        x.tick();
        int events = x.tick();
        int votes = x.votes(3, 0);
        return events == 0 ? votes : votes == 7 && x.figure(2) == 1 ? -1 : -2;
    }

    private static void checksKnownFromElsewhere(Check check) {
        check.same("01 00 15", votesOf(0x150001), 0);
        check.same("01 07 00", votesOf(0x000701), 7);
        check.same("01 06 07", votesOf(0x070601), 6);
        check.same("01 05 0E", votesOf(0x0E0501), 5);
        check.same("01 00 00", votesOf(0x000001), -1);
    }

    private static void everyGoodFrame(Check check) {
        for (int second = 0; second < 256; second++) {
            check.same("a good frame with " + second, votesOf(FrameWords.good(1, second)), second & 7);
        }
    }

    private static void everyBitThatTurns(Check check) {
        for (int bit = 0; bit < 24; bit++) {
            check.same("bit " + bit + " turned", votesOf(0x150001 ^ 1 << bit), -1);
        }
    }

    private static void onlyThreeBytes(Check check) {
        check.same("a fourth byte", votesOf(0x7F150001), 0);
        check.same("below 0", votesOf(0xFF000701), 7);
        check.same("-1", votesOf(-1), -1);
    }

    private static void theLatestFaultCounts(Check check) {
        TripGuard x = new TripGuard(1);
        x.fault(0, 0, 0);
        x.fault(0, 0, 0x000701);
        x.tick();
        check.same("tick 2", x.tick(), 0);
        check.same("votes", x.votes(0, 0), 7);
        check.same("tick 3: the first is gone", x.tick(), 0);
        check.same("votes", x.votes(0, 0), 0);
    }

    private static void theTimeThen(Check check) {
        for (int time = 0; time < 5; time++) {
            TripGuard x = new TripGuard(1);
            x.tick();
            x.fault(0, 0, FrameWords.good(time, 2));
            x.tick();
            x.tick();
            check.same("a frame of time " + time + " sent in tick 2", x.figure(2), time == 2 ? 0 : 1);
        }
    }

    private static void theLowestByteOfTheTime(Check check) {
        TripGuard x = new TripGuard(1);
        for (int n = 1; n <= 300; n++) {
            if (n == 255 || n == 256 || n == 257) {
                x.fault(3, 1, FrameWords.good(n, 5));
            }
            x.tick();
            if (n >= 256 && n <= 258) {
                check.same("votes in tick " + n, x.votes(1, 3), 5);
            }
        }
        check.same("all frames of 300 ticks are good", x.figure(2), 0);
    }

    private static void oneLinkAlone(Check check) {
        for (int c = 0; c < 4; c++) {
            for (int t = 0; t < 4; t++) {
                TripGuard x = new TripGuard(1);
                x.fault(c, t, 0);
                Check.ticks(x, 2);
                check.same("event", Check.events(x, 0), "2:5(" + t + "," + c + ")");
                for (int i = 0; i < 16; i++) {
                    check.same("votes", x.votes(i / 4, i % 4), i == t * 4 + c ? 7 : 0);
                }
            }
        }
        TripGuard x = new TripGuard(1);
        x.fault(1, 2, 0);
        x.fault(3, 2, 0);
        x.tick();
        check.same("two at one train", x.tick(), 2 + 3 + 1 + 3);
        check.same("demands", x.demands(2), 7);
        check.same("latched", x.latched(2), 15);
        check.same("not at another", x.demands(1), 0);
    }

    private static void wrongInputs(Check check) {
        TripGuard x = new TripGuard(1);
        int[][] bad = {{-1, 0}, {4, 0}, {0, -1}, {0, 4}, {Integer.MIN_VALUE, 0}, {Integer.MAX_VALUE, 0},
            {0, Integer.MIN_VALUE}, {0, Integer.MAX_VALUE}};
        for (int[] b : bad) {
            check.badArgument("fault(" + b[0] + ", " + b[1] + ", 0)", () -> x.fault(b[0], b[1], 0));
        }
        Check.ticks(x, 2);
        check.same("nothing was set", x.figure(1), 0);
    }
}
