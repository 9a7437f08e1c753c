import java.util.NoSuchElementException;

/** Promise 15: event. */
public final class P15EventTest {
    public static void main(String[] args) {
        Check check = new Check();
        columns(check);
        timeBetweenTicks(check);
        theLastFortyAreKept(check);
        wrongInputs(check);
        check.finish();
    }

    private static void columns(Check check) {
        TripGuard x = new TripGuard(1);
        Check.ticks(x, 4);
        x.sense(3, 2, 4095);
        x.tick();
        int[] due = {5, 1, 3, 2};
        for (int what = 0; what < 4; what++) {
            check.same("event(0, " + what + ")", x.event(0, what), due[what]);
        }
    }

    private static void timeBetweenTicks(Check check) {
        TripGuard x = new TripGuard(1);
        x.bypass(1);
        check.same("before a tick", x.event(0, 0), 0);
        Check.ticks(x, 3);
        x.restore();
        check.same("after tick 3", x.event(1, 0), 3);
        check.same("tick() does not count what is between ticks", x.tick(), 0);
    }

    private static void theLastFortyAreKept(Check check) {
        TripGuard x = new TripGuard(1);
        for (int n = 0; n < 100; n++) {
            if (n % 2 == 0) {
                x.bypass(n / 2 % 4);
            } else {
                x.restore();
            }
            int last = n;
            check.same("kind of " + n, x.event(n, 1), n % 2 == 0 ? 11 : 12);
            if (n >= 39) {
                check.same("channel of " + (n - 39), x.event(n - 39, 2), (n - 39) / 2 % 4);
            }
            if (n == 39 || n == 40 || n == 41 || n == 99) {
                check.refused("event(" + (n - 40) + ") of " + n, NoSuchElementException.class,
                        () -> x.event(last - 40, 0));
            }
            check.refused("event(" + (n + 1) + ")", NoSuchElementException.class, () -> x.event(last + 1, 0));
        }
        check.same("how many there were", x.figure(1), 100);
        check.refused("event(0, 0)", NoSuchElementException.class, () -> x.event(0, 0));
        check.refused("event(59, 0)", NoSuchElementException.class, () -> x.event(59, 0));
        check.same("event(60, 1)", x.event(60, 1), 11);
    }

    private static void wrongInputs(Check check) {
        TripGuard x = new TripGuard(1);
        check.refused("event(0, 0) of none", NoSuchElementException.class, () -> x.event(0, 0));
        check.refused("event(-1, 0) of none", NoSuchElementException.class, () -> x.event(-1, 0));
        x.bypass(2);
        int[] numbers = {-1, 1, -40, 40, Integer.MIN_VALUE, Integer.MAX_VALUE};
        for (int n : numbers) {
            check.refused("event(" + n + ", 0)", NoSuchElementException.class, () -> x.event(n, 0));
            check.refused("event(" + n + ", 4)", NoSuchElementException.class, () -> x.event(n, 4));
        }
        int[] whats = {-1, 4, Integer.MIN_VALUE, Integer.MAX_VALUE};
        for (int w : whats) {
            check.badArgument("event(0, " + w + ")", () -> x.event(0, w));
        }
    }
}
