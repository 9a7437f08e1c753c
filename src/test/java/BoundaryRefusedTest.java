import java.util.ArrayList;
import java.util.List;
import java.util.Map;
import java.util.NoSuchElementException;
import java.util.TreeMap;

/** What calls that throw do: which exception it is, and that nothing is changed by it. */
public final class BoundaryRefusedTest {
    private static final int[] ARGUMENTS = {-1, 0, 1, 2, 3, 4, Integer.MIN_VALUE, Integer.MAX_VALUE};
    private static final int SCENES = 6;
    /** How many of the calls each scene refuses: those outside of the ranges, and those of its state. */
    private static final String[] REFUSED = {
        "bypass=4, channel=52, demands=4, event=64, fault=48, figure=3, latched=4, limit=52, reset=8, restore=1, "
            + "sense=360, test=52, votes=48",
        "bypass=8, channel=52, demands=4, event=60, fault=48, figure=3, latched=4, limit=52, reset=8, "
            + "sense=360, test=64, votes=48",
        "bypass=5, channel=52, demands=4, event=64, fault=48, figure=3, latched=4, limit=52, reset=8, restore=1, "
            + "sense=360, test=64, votes=48",
        "bypass=4, channel=52, demands=4, event=64, fault=48, figure=3, latched=4, limit=52, reset=8, restore=1, "
            + "sense=360, test=52, votes=48",
        "bypass=8, channel=52, demands=4, event=48, fault=48, figure=3, latched=4, limit=52, reset=8, "
            + "sense=360, test=55, votes=48",
        "bypass=5, channel=52, demands=4, event=48, fault=48, figure=3, latched=4, limit=52, reset=6, restore=1, "
            + "sense=360, test=64, votes=48",
    };

    /** A call and its text. */
    private static final class Named {
        private final String text;
        private final Call call;

        Named(String text, Call call) {
            this.text = text;
            this.call = call;
        }
    }

    /** A call of an object. */
    private interface Call {
        void make(TripGuard x);
    }

    public static void main(String[] args) {
        Check check = new Check();
        check.sentence("Methods throw what their comments name, the one named first when several would do",
                () -> theFirstNamed(check));
        check.sentence("a call that throws changes nothing", () -> nothingChanges(check));
        check.finish();
    }

    private static void theFirstNamed(Check check) {
        TripGuard x = scene(1);
        check.badArgument("bypass(4), one being bypassed", () -> x.bypass(4));
        check.badArgument("bypass(-1), a test being under way", () -> x.bypass(-1));
        check.badArgument("test(4, 0), a test being under way", () -> x.test(4, 0));
        check.badArgument("test(2, 3), a test of it being under way", () -> x.test(2, 3));
        check.badArgument("test(1, -1), the channel being bypassed", () -> x.test(1, -1));
        check.badArgument("reset(4), nothing being latched", () -> x.reset(4));
        check.badArgument("reset(-1), nothing being latched", () -> x.reset(-1));
        check.refused("event(-1, 4)", NoSuchElementException.class, () -> x.event(-1, 4));
        check.refused("event(1, -1), there being one", NoSuchElementException.class, () -> x.event(1, -1));
        check.badArgument("event(0, 4)", () -> x.event(0, 4));
        TripGuard y = scene(4);
        check.refused("event(0, 4), it being not kept", NoSuchElementException.class, () -> y.event(0, 4));
    }

    /** One of some runs of calls that lead to states in which much can be refused. */
    private static TripGuard scene(int number) {
        TripGuard x = new TripGuard(2);
        if (number == 1) {
            x.bypass(1);
            x.test(2, 1);
            x.fault(3, 0, 0);
            x.sense(0, 0, 3001);
            x.sense(2, 0, 3001);
        } else if (number == 2) {
            x.test(2, 1);
            x.sense(0, 0, 3001);
            x.sense(2, 0, 3001);
            x.tick();
            x.fault(2, 2, 0);
        } else if (number == 3) {
            Check.ticks(x, 13);
        } else if (number == 4) {
            Check.ticks(x, 14);
            x.tick();
            x.bypass(0);
        } else if (number == 5) {
            for (int t = 0; t < 4; t++) {
                x.fault(0, t, 0);
                x.fault(1, t, 0);
            }
            Check.ticks(x, 3);
            x.reset(2);
            x.fault(0, 1, 0);
            x.fault(3, 1, FrameWords.good(4, 7));
            x.tick();
            x.test(3, 0);
            x.tick();
        }
        return x;
    }

    private static List<Named> calls() {
        List<Named> all = new ArrayList<>();
        for (int a : ARGUMENTS) {
            all.add(new Named("bypass(" + a + ")", x -> x.bypass(a)));
            all.add(new Named("reset(" + a + ")", x -> x.reset(a)));
            all.add(new Named("demands(" + a + ")", x -> x.demands(a)));
            all.add(new Named("latched(" + a + ")", x -> x.latched(a)));
            all.add(new Named("figure(" + a + ")", x -> x.figure(a)));
            for (int b : ARGUMENTS) {
                all.add(new Named("limit(" + a + ", " + b + ")", x -> x.limit(a, b)));
                all.add(new Named("test(" + a + ", " + b + ")", x -> x.test(a, b)));
                all.add(new Named("channel(" + a + ", " + b + ")", x -> x.channel(a, b)));
                all.add(new Named("votes(" + a + ", " + b + ")", x -> x.votes(a, b)));
                all.add(new Named("event(" + a + ", " + b + ")", x -> x.event(a, b)));
                all.add(new Named("fault(" + a + ", " + b + ", -1)", x -> x.fault(a, b, -1)));
                for (int value : new int[] {-1, 0, 2000, 4096, Integer.MIN_VALUE, Integer.MAX_VALUE}) {
                    all.add(new Named("sense(" + a + ", " + b + ", " + value + ")", x -> x.sense(a, b, value)));
                }
            }
        }
        all.add(new Named("restore()", x -> x.restore()));
        return all;
    }

    private static boolean isRefused(TripGuard x, Call call) {
        try {
            call.make(x);
            return false;
        } catch (IllegalArgumentException | IllegalStateException | NoSuchElementException e) {
            return true;
        }
    }

    private static void nothingChanges(Check check) {
        for (int number = 0; number < SCENES; number++) {
            String without = whatFollows(scene(number));
            Map<String, Integer> refused = new TreeMap<>();
            for (Named one : calls()) {
                TripGuard x = scene(number);
                if (isRefused(x, one.call)) {
                    refused.merge(one.text.substring(0, one.text.indexOf('(')), 1, Integer::sum);
                    check.same("what follows " + one.text + " in scene " + number, whatFollows(x), without);
                }
            }
            check.same("refused calls of scene " + number, refused.toString(), "{" + REFUSED[number] + "}");
        }
    }

    /** All that can be seen now and in sixteen ticks more; new readings, old ones, tests and faults show in it. */
    private static String whatFollows(TripGuard x) {
        StringBuilder text = new StringBuilder(Check.state(x));
        for (int n = 0; n < 16; n++) {
            text.append(x.tick()).append(' ');
            if (n == 0 || n == 2) {
                text.append(Check.state(x)).append(' ');
            }
        }
        text.append(Check.state(x)).append(' ');
        return text.append(Check.events(x, Math.max(0, x.figure(1) - 40))).toString();
    }
}
