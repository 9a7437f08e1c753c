import java.util.NoSuchElementException;
import java.util.Random;

/** Drawn runs of 512 calls (the same ones every time), each answer held against the model's. */
public final class ModelTest {
    private static final int RUNS = 1500;
    private static final int CALLS = 512;
    private static final int[] EDGES = {0, 49, 50, 1199, 1200, 1201, 1239, 1240, 1241, 1995, 1996, 1999, 2000, 2001,
        2859, 2860, 2861, 2900, 2901, 2959, 2960, 2961, 2999, 3000, 3001, 4000, 4001, 4095};

    /** One call with its arguments. */
    private static final class Drawn {
        private final int method;
        private final int a;
        private final int b;
        private final int c;

        Drawn(int method, int a, int b, int c) {
            this.method = method;
            this.a = a;
            this.b = b;
            this.c = c;
        }

        @Override
        public String toString() {
            return "call " + method + " with " + a + ", " + b + ", " + c;
        }
    }

    public static void main(String[] args) {
        Check check = new Check();
        for (int run = 0; run < RUNS; run++) {
            oneRun(check, run);
        }
        check.finish();
    }

    private static void oneRun(Check check, int run) {
        Random random = new Random(run);
        int debounce = random.nextInt(12) - 1;
        TripGuard guard = new TripGuard(debounce);
        Model model = new Model(debounce);
        int[][] near = new int[4][];
        for (int c = 0; c < 4; c++) {
            near[c] = new int[] {2000, 2200, 1500};
        }
        // Some runs have mostly ticks, so that readings get old; others have mostly readings.
        int ticks = 5 + random.nextInt(60);
        for (int n = 0; n < CALLS; n++) {
            Drawn call = random.nextInt(100) < ticks ? new Drawn(2, 0, 0, 0) : draw(random, model, near);
            long due = ofModel(model, call);
            long got = ofGuard(guard, call);
            if (due != got) {
                check.same("run " + run + ", " + n + ": " + call, got, due);
                return;
            }
        }
        check.same("run " + run, 0, 0);
    }

    private static int index(Random random, int below) {
        return random.nextInt(40) == 0 ? random.nextInt(9) - 3 : random.nextInt(below);
    }

    private static Drawn draw(Random random, Model model, int[][] near) {
        int method = random.nextInt(24);
        if (method >= 15) {
            method = 0;
        }
        int c = index(random, 4);
        int p = index(random, 3);
        switch (method) {
            case 0:
                return new Drawn(0, c, p, value(random, near, c, p));
            case 7:
                return new Drawn(7, c, index(random, 4), word(random, model));
            case 13:
                return new Drawn(13, (int) model.figure(1) - random.nextInt(46) + 2, index(random, 4), 0);
            case 14:
                return new Drawn(14, index(random, 7), 0, 0);
            default:
                return new Drawn(method, c, method == 9 ? index(random, 4) : p, 0);
        }
    }

    /** Mostly a small step from the reading before, towards where limits are passed. */
    private static int value(Random random, int[][] near, int c, int p) {
        int kind = random.nextInt(20);
        int value = kind == 0 ? random.nextInt(4100) - 2
                : kind < 4 ? EDGES[random.nextInt(EDGES.length)] : -1;
        if (c < 0 || c > 3 || p < 0 || p > 2) {
            return value < 0 ? 2000 : value;
        }
        if (value == -1) {
            int step = random.nextInt(10) == 0 ? (random.nextBoolean() ? 400 : 401) : random.nextInt(400);
            value = near[c][p] + (random.nextBoolean() ? step : -step);
            value = Math.max(0, Math.min(4095, value));
        }
        if (value >= 0 && value <= 4095) {
            near[c][p] = value;
        }
        return value;
    }

    private static int word(Random random, Model model) {
        int next = (int) model.figure(0) + 1;
        switch (random.nextInt(4)) {
            case 0:
                return random.nextInt();
            case 1:
                return FrameWords.good(next, random.nextInt(256)) ^ 1 << random.nextInt(32);
            default:
                return FrameWords.good(next, random.nextInt(256)) | random.nextInt(256) << 24;
        }
    }

    private static long ofModel(Model m, Drawn d) {
        switch (d.method) {
            case 0: return m.sense(d.a, d.b, d.c);
            case 1: return m.limit(d.a, d.b);
            case 2: return m.tick();
            case 3: return m.bypass(d.a);
            case 4: return m.restore();
            case 5: return m.test(d.a, d.b);
            case 6: return m.reset(d.a);
            case 7: return m.fault(d.a, d.b, d.c);
            case 8: return m.channel(d.a, d.b);
            case 9: return m.votes(d.a, d.b);
            case 10: return m.demands(d.a);
            case 11: return m.latched(d.a);
            case 12: return m.tripped();
            case 13: return m.event(d.a, d.b);
            default: return m.figure(d.a);
        }
    }

    private static long ofGuard(TripGuard g, Drawn d) {
        try {
            return answer(g, d);
        } catch (IllegalArgumentException e) {
            return Model.ARGUMENT;
        } catch (IllegalStateException e) {
            return Model.STATE;
        } catch (NoSuchElementException e) {
            return Model.ELEMENT;
        }
    }

    private static long answer(TripGuard g, Drawn d) {
        switch (d.method) {
            case 0: g.sense(d.a, d.b, d.c); return 0;
            case 1: return g.limit(d.a, d.b);
            case 2: return g.tick();
            case 3: g.bypass(d.a); return 0;
            case 4: g.restore(); return 0;
            case 5: g.test(d.a, d.b); return 0;
            case 6: g.reset(d.a); return 0;
            case 7: g.fault(d.a, d.b, d.c); return 0;
            case 8: return g.channel(d.a, d.b);
            case 9: return g.votes(d.a, d.b);
            case 10: return g.demands(d.a);
            case 11: return g.latched(d.a);
            case 12: return g.tripped() ? 1 : 0;
            case 13: return g.event(d.a, d.b);
            default: return g.figure(d.a);
        }
    }
}
