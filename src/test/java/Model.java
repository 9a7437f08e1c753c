import java.util.ArrayList;
import java.util.List;

/**
 * The document once more, written as plainly as can be and with nothing shared with TripGuard: state is
 * kept for each single bit, all events are kept for ever, limits are worked out in exact fractions.
 * Methods answer Long.MIN_VALUE + n for an exception: 1 IllegalArgument, 2 IllegalState, 3 NoSuchElement.
 */
final class Model {
    static final long ARGUMENT = Long.MIN_VALUE + 1;
    static final long STATE = Long.MIN_VALUE + 2;
    static final long ELEMENT = Long.MIN_VALUE + 3;

    private final int debounce;
    private int time = 0;
    private final int[][] reading = new int[4][];
    private final int[][] lastReading = new int[4][3];
    private final int[][] lastNewTick = new int[4][3];
    private final boolean[][] sensed = new boolean[4][3];
    private final boolean[][] wrong = new boolean[4][3];
    private final boolean[][] set = new boolean[4][3];
    private final int[][] beyond = new int[4][3];
    private final int[][][] sent = new int[4][4][];
    private final Integer[][] faults = new Integer[4][4];
    private final boolean[][][] vote = new boolean[4][4][3];
    private final boolean[][] demand = new boolean[4][3];
    private final boolean[] breaker = new boolean[4];
    private final boolean[][] runs = new boolean[4][3];
    private int bypassed = -1;
    private int testChannel = -1;
    private int testParameter = -1;
    private int testSentIn = -1;
    private int bad = 0;
    private int passed = 0;
    private int failed = 0;
    private final List<int[]> events = new ArrayList<>();

    Model(int debounce) {
        this.debounce = debounce < 1 ? 1 : debounce > 8 ? 8 : debounce;
        for (int c = 0; c < 4; c++) {
            reading[c] = new int[] {2000, 2200, 1500};
        }
    }

    private static boolean four(int n) {
        return 0 <= n && n <= 3;
    }

    private static boolean three(int n) {
        return 0 <= n && n <= 2;
    }

    private void happened(int kind, int a, int b) {
        events.add(new int[] {time, kind, a, b});
    }

    long sense(int c, int p, int v) {
        if (!four(c) || !three(p) || v < 0 || v > 4095) {
            return ARGUMENT;
        }
        reading[c][p] = v;
        sensed[c][p] = true;
        return 0;
    }

    long limit(int c, int p) {
        return four(c) && three(p) ? theLimit(c, p) : ARGUMENT;
    }

    private int theLimit(int c, int p) {
        if (p < 2) {
            return p == 0 ? 3000 : 1200;
        }
        int x = reading[c][0];
        int y = reading[c][1];
        int thousandths;
        if (x <= 1000) {
            thousandths = 3600000 - 300 * x;
        } else if (x <= 2000) {
            thousandths = 3300000 - 400 * (x - 1000);
        } else if (x <= 4000) {
            thousandths = 2900000 - 700 * (x - 2000);
        } else {
            thousandths = 1500000;
        }
        int less = 0;
        for (int below = 2000 - y; below > 0; below -= 4) {
            less++;
        }
        return thousandths / 1000 - less;
    }

    long tick() {
        int before = events.size();
        time++;
        for (int c = 0; c < 4; c++) {
            for (int p = 0; p < 3; p++) {
                lookAtReading(c, p);
                lookAtBistable(c, p);
                lastReading[c][p] = reading[c][p];
                sensed[c][p] = false;
            }
        }
        boolean[] gotBit = new boolean[4];
        for (int t = 0; t < 4; t++) {
            gotBit[t] = lookAtFrames(t);
            lookAtDemands(t);
        }
        if (testChannel >= 0 && testSentIn == time - 1) {
            boolean all = gotBit[0] && gotBit[1] && gotBit[2] && gotBit[3];
            happened(all ? 9 : 10, testChannel, testParameter);
            passed += all ? 1 : 0;
            failed += all ? 0 : 1;
            testChannel = -1;
        }
        sendAll();
        return events.size() - before;
    }

    private void lookAtReading(int c, int p) {
        if (sensed[c][p] || time == 1) {
            lastNewTick[c][p] = time;
        }
        int v = reading[c][p];
        int d = v - lastReading[c][p];
        boolean now = v < 50 || v > 4000 || (time > 1 && (d > 400 || d < -400)) || time >= lastNewTick[c][p] + 13;
        if (now != wrong[c][p]) {
            happened(now ? 1 : 2, c, p);
        }
        wrong[c][p] = now;
    }

    private void lookAtBistable(int c, int p) {
        if (wrong[c][p]) {
            beyond[c][p] = 0;
            return;
        }
        int v = p == 1 ? -reading[c][p] : reading[c][p];
        int l = p == 1 ? -theLimit(c, p) : theLimit(c, p);
        beyond[c][p] = v > l ? beyond[c][p] + 1 : 0;
        if (!set[c][p] && beyond[c][p] >= debounce) {
            set[c][p] = true;
            happened(3, c, p);
        } else if (set[c][p] && v < l - 40) {
            set[c][p] = false;
            happened(4, c, p);
        }
    }

    /** Whether the train got a good frame with the test's bit. */
    private boolean lookAtFrames(int t) {
        boolean gotBit = false;
        for (int c = 0; c < 4; c++) {
            int[] frame = sent[c][t];
            boolean good = time == 1 || (frame[0] == (time - 1) % 256 && frame[2] == check(frame[0], frame[1]));
            for (int p = 0; p < 3; p++) {
                vote[t][c][p] = !good || (time > 1 && (frame[1] >> p) % 2 == 1);
            }
            if (!good) {
                bad++;
                happened(5, t, c);
            } else if (c == testChannel && time > 1) {
                gotBit = (frame[1] >> 3 + testParameter) % 2 == 1;
            }
        }
        return gotBit;
    }

    private void lookAtDemands(int t) {
        for (int p = 0; p < 3; p++) {
            int count = 0;
            for (int c = 0; c < 4; c++) {
                count += vote[t][c][p] && bypassed != c ? 1 : 0;
            }
            if (count >= 2 && !demand[t][p]) {
                happened(6, t, p);
            }
            demand[t][p] = count >= 2;
        }
        if ((demand[t][0] || demand[t][1] || demand[t][2]) && !breaker[t]) {
            breaker[t] = true;
            happened(7, t, 0);
        }
        boolean[] run = {demand[t][1], demand[t][2], demand[t][0] && demand[t][1]};
        for (int f = 0; f < 3; f++) {
            if (run[f] && !runs[t][f]) {
                runs[t][f] = true;
                happened(8, t, f);
            }
        }
    }

    private void sendAll() {
        for (int c = 0; c < 4; c++) {
            for (int t = 0; t < 4; t++) {
                int second = votesOf(c) + (testChannel == c ? 8 << testParameter : 0);
                sent[c][t] = new int[] {time % 256, second, check(time % 256, second)};
                if (faults[c][t] != null) {
                    int word = faults[c][t];
                    sent[c][t] = new int[] {word & 255, word >> 8 & 255, word >> 16 & 255};
                    faults[c][t] = null;
                }
            }
        }
        testSentIn = testChannel >= 0 ? time : -1;
    }

    private static int check(int first, int second) {
        int c = 0;
        for (int b : new int[] {first, second}) {
            c = c ^ b;
            for (int i = 0; i < 8; i++) {
                c = c * 2;
                if (c >= 256) {
                    c = c ^ 263;
                }
            }
        }
        return c;
    }

    private static int bits(boolean[] row) {
        return (row[0] ? 1 : 0) + (row[1] ? 2 : 0) + (row[2] ? 4 : 0);
    }

    private int votesOf(int c) {
        return bits(set[c]) | bits(wrong[c]);
    }

    long bypass(int c) {
        if (!four(c)) {
            return ARGUMENT;
        }
        if (bypassed >= 0 || testChannel == c) {
            return STATE;
        }
        bypassed = c;
        happened(11, c, 0);
        return 0;
    }

    long restore() {
        if (bypassed < 0) {
            return STATE;
        }
        happened(12, bypassed, 0);
        bypassed = -1;
        return 0;
    }

    long test(int c, int p) {
        if (!four(c) || !three(p)) {
            return ARGUMENT;
        }
        if (testChannel >= 0 || bypassed == c) {
            return STATE;
        }
        testChannel = c;
        testParameter = p;
        testSentIn = -1;
        return 0;
    }

    private int latches(int t) {
        return (breaker[t] ? 1 : 0) + 2 * bits(runs[t]);
    }

    long reset(int t) {
        if (!four(t)) {
            return ARGUMENT;
        }
        if (latches(t) == 0 || bits(demand[t]) != 0) {
            return STATE;
        }
        happened(13, t, latches(t));
        breaker[t] = false;
        runs[t] = new boolean[3];
        return 0;
    }

    long fault(int c, int t, int word) {
        if (!four(c) || !four(t)) {
            return ARGUMENT;
        }
        faults[c][t] = word;
        return 0;
    }

    long channel(int c, int which) {
        if (!four(c) || !three(which)) {
            return ARGUMENT;
        }
        return which == 0 ? votesOf(c) : bits(which == 1 ? wrong[c] : set[c]);
    }

    long votes(int t, int c) {
        return four(t) && four(c) ? bits(vote[t][c]) : ARGUMENT;
    }

    long demands(int t) {
        return four(t) ? bits(demand[t]) : ARGUMENT;
    }

    long latched(int t) {
        return four(t) ? latches(t) : ARGUMENT;
    }

    long tripped() {
        int open = 0;
        for (boolean b : breaker) {
            open += b ? 1 : 0;
        }
        return open > 1 ? 1 : 0;
    }

    long event(int number, int what) {
        if (number < 0 || number >= events.size() || number < events.size() - 40) {
            return ELEMENT;
        }
        return what < 0 || what > 3 ? ARGUMENT : events.get(number)[what];
    }

    long figure(int k) {
        int[] all = {time, events.size(), bad, passed, failed, bypassed, testChannel};
        return k < 0 || k > 6 ? ARGUMENT : all[k];
    }
}
