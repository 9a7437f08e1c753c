import java.util.Arrays;
import java.util.NoSuchElementException;

/**
 * Guards a reactor: four channels look at three parameters each, four trains vote on what the
 * channels tell them, and what a train has tripped stays so until somebody resets it.
 */
public final class TripGuard {
    private static final int CHANNELS = 4;
    private static final int TRAINS = 4;
    private static final int PARAMETERS = 3;
    private static final int FUNCTIONS = 3;

    private static final int POWER = 0;
    private static final int PRESSURE = 1;
    private static final int HIGHEST_READING = 4095;

    /** A bit for each parameter. */
    private static final int EVERY_PARAMETER = 7;
    private static final int VOTES_FOR_DEMAND = 2;
    private static final int BREAKERS_FOR_TRIP = 2;
    private static final int MOST_DEBOUNCE = 8;
    private static final int BYTE = 255;
    private static final int NONE = -1;

    private static final int EVENT_WRONG = 1;
    private static final int EVENT_NOT_WRONG = 2;
    private static final int EVENT_SET = 3;
    private static final int EVENT_NOT_SET = 4;
    private static final int EVENT_BAD_FRAME = 5;
    private static final int EVENT_DEMAND = 6;
    private static final int EVENT_BREAKER = 7;
    private static final int EVENT_FUNCTION = 8;
    private static final int EVENT_TEST_PASSED = 9;
    private static final int EVENT_TEST_FAILED = 10;
    private static final int EVENT_BYPASS = 11;
    private static final int EVENT_RESTORE = 12;
    private static final int EVENT_RESET = 13;

    private final int debounce;
    private final Journal journal = new Journal();
    private final Channel[] channels = new Channel[CHANNELS];
    private final Train[] trains = new Train[TRAINS];
    private final Links links = new Links();
    private final Trial trial = new Trial();
    private int bypassed = NONE;
    private int badFrames = 0;

    public TripGuard(int debounce) {
        this.debounce = Math.max(1, Math.min(MOST_DEBOUNCE, debounce));
        for (int c = 0; c < CHANNELS; c++) {
            channels[c] = new Channel(c);
        }
        for (int t = 0; t < TRAINS; t++) {
            trains[t] = new Train(t);
        }
    }

    public void sense(int channel, int parameter, int value) throws IllegalArgumentException {
        needChannel(channel);
        needParameter(parameter);
        need(value >= 0 && value <= HIGHEST_READING);
        channels[channel].take(parameter, value);
    }

    public int limit(int channel, int parameter) throws IllegalArgumentException {
        needChannel(channel);
        needParameter(parameter);
        return channels[channel].limitOf(parameter);
    }

    public int tick() {
        int eventsBefore = journal.total;
        journal.time++;
        for (int c = 0; c < CHANNELS; c++) {
            channels[c].look(debounce, journal);
        }
        for (int t = 0; t < TRAINS; t++) {
            receiveFrames(trains[t]);
            trains[t].decide(bypassed, journal);
        }
        if (trial.channel != NONE && trial.sent) {
            endTrial();
        }
        sendFrames();
        return journal.total - eventsBefore;
    }

    public void bypass(int channel) throws IllegalArgumentException, IllegalStateException {
        needChannel(channel);
        needState(bypassed == NONE && trial.channel != channel);
        bypassed = channel;
        journal.record(EVENT_BYPASS, channel, 0);
    }

    public void restore() throws IllegalStateException {
        needState(bypassed != NONE);
        journal.record(EVENT_RESTORE, bypassed, 0);
        bypassed = NONE;
    }

    public void test(int channel, int parameter) throws IllegalArgumentException, IllegalStateException {
        needChannel(channel);
        needParameter(parameter);
        needState(trial.channel == NONE && bypassed != channel);
        trial.begin(channel, parameter);
    }

    public void reset(int train) throws IllegalArgumentException, IllegalStateException {
        needTrain(train);
        Train one = trains[train];
        needState(one.latches != 0 && one.demanded == 0);
        journal.record(EVENT_RESET, train, one.latches);
        one.latches = 0;
    }

    public void fault(int channel, int train, int word) throws IllegalArgumentException {
        needChannel(channel);
        needTrain(train);
        links.disturb(channel, train, word);
    }

    public int channel(int channel, int which) throws IllegalArgumentException {
        needChannel(channel);
        need(which >= 0 && which <= 2);
        Channel one = channels[channel];
        switch (which) {
            case 0:
                return one.wrong | one.set;
            case 1:
                return one.wrong;
            default:
                return one.set;
        }
    }

    public int votes(int train, int channel) throws IllegalArgumentException {
        needTrain(train);
        needChannel(channel);
        return trains[train].told[channel] & EVERY_PARAMETER;
    }

    public int demands(int train) throws IllegalArgumentException {
        needTrain(train);
        return trains[train].demanded;
    }

    public int latched(int train) throws IllegalArgumentException {
        needTrain(train);
        return trains[train].latches;
    }

    public boolean tripped() {
        int open = 0;
        for (int t = 0; t < TRAINS; t++) {
            open += trains[t].latches & Train.BREAKER;
        }
        return open >= BREAKERS_FOR_TRIP;
    }

    public int event(int number, int what) throws NoSuchElementException, IllegalArgumentException {
        if (!journal.keeps(number)) {
            throw new NoSuchElementException();
        }
        need(what >= 0 && what < Journal.COLUMNS);
        return journal.read(number, what);
    }

    public int figure(int k) throws IllegalArgumentException {
        switch (k) {
            case 0:
                return journal.time;
            case 1:
                return journal.total;
            case 2:
                return badFrames;
            case 3:
                return trial.passed;
            case 4:
                return trial.failed;
            case 5:
                return bypassed;
            case 6:
                return trial.channel;
            default:
                throw new IllegalArgumentException();
        }
    }

    private static void needChannel(int channel) {
        need(channel >= 0 && channel < CHANNELS);
    }

    private static void needTrain(int train) {
        need(train >= 0 && train < TRAINS);
    }

    private static void needParameter(int parameter) {
        need(parameter >= 0 && parameter < PARAMETERS);
    }

    private static void need(boolean fitting) {
        if (!fitting) {
            throw new IllegalArgumentException();
        }
    }

    private static void needState(boolean fitting) {
        if (!fitting) {
            throw new IllegalStateException();
        }
    }

    private void receiveFrames(Train train) {
        int sentAt = journal.time - 1;
        for (int c = 0; c < CHANNELS; c++) {
            int frame = links.frameOf(c, train.number);
            if (Links.isGood(frame, sentAt)) {
                train.told[c] = Links.messageOf(frame);
            } else {
                train.told[c] = EVERY_PARAMETER;
                badFrames++;
                journal.record(EVENT_BAD_FRAME, train.number, c);
            }
        }
    }

    private void endTrial() {
        boolean seen = true;
        for (int t = 0; t < TRAINS; t++) {
            seen = seen && (trains[t].told[trial.channel] & trial.bitOn(trial.channel)) != 0;
        }
        journal.record(seen ? EVENT_TEST_PASSED : EVENT_TEST_FAILED, trial.channel, trial.parameter);
        trial.end(seen);
    }

    private void sendFrames() {
        for (int c = 0; c < CHANNELS; c++) {
            int message = channels[c].wrong | channels[c].set | trial.bitOn(c);
            links.send(c, Links.frameWith(journal.time, message));
        }
        trial.sent = trial.channel != NONE;
    }

    /** A channel: its readings, which of them are wrong, and its bistables. */
    private static final class Channel {
        private static final int LOWEST_RIGHT = 50;
        private static final int HIGHEST_RIGHT = 4000;
        private static final int LARGEST_STEP = 400;
        private static final int STALE_TICKS = 13;
        private static final int HYSTERESIS = 40;
        private static final int POWER_LIMIT = 3000;
        private static final int PRESSURE_LIMIT = 1200;
        private static final int FULL_PRESSURE = 2000;
        private static final int CURVE_STEP = 1000;
        private static final int[] CURVE = {3600, 3300, 2900, 2200, 1500};

        private final int number;
        private final int[] readings = {2000, 2200, 1500};
        private final int[] readingsBefore = new int[PARAMETERS];
        private final int[] ticksNotNew = new int[PARAMETERS];
        private final int[] ticksBeyond = new int[PARAMETERS];
        private int fresh = EVERY_PARAMETER;
        private int wrong = 0;
        private int set = 0;

        Channel(int number) {
            this.number = number;
        }

        void take(int parameter, int value) {
            readings[parameter] = value;
            fresh |= 1 << parameter;
        }

        void look(int debounce, Journal journal) {
            for (int p = 0; p < PARAMETERS; p++) {
                ticksNotNew[p] = (fresh & (1 << p)) != 0 ? 0 : ticksNotNew[p] + 1;
                judge(p, journal);
                moveBistable(p, debounce, journal);
                readingsBefore[p] = readings[p];
            }
            fresh = 0;
        }

        private void judge(int p, Journal journal) {
            int bit = 1 << p;
            boolean wasWrong = (wrong & bit) != 0;
            boolean isWrong = isWrong(p, journal.time > 1);
            if (isWrong && !wasWrong) {
                wrong |= bit;
                journal.record(EVENT_WRONG, number, p);
            } else if (!isWrong && wasWrong) {
                wrong &= ~bit;
                journal.record(EVENT_NOT_WRONG, number, p);
            }
        }

        private boolean isWrong(int p, boolean hadTickBefore) {
            int reading = readings[p];
            return reading < LOWEST_RIGHT || reading > HIGHEST_RIGHT
                    || (hadTickBefore && Math.abs(reading - readingsBefore[p]) > LARGEST_STEP)
                    || ticksNotNew[p] >= STALE_TICKS;
        }

        private void moveBistable(int p, int debounce, Journal journal) {
            int bit = 1 << p;
            if ((wrong & bit) != 0) {
                // A wrong reading tells nothing: the bistable stays as it is.
                ticksBeyond[p] = 0;
                return;
            }
            ticksBeyond[p] = isBeyond(p) ? ticksBeyond[p] + 1 : 0;
            if ((set & bit) == 0) {
                if (ticksBeyond[p] >= debounce) {
                    set |= bit;
                    journal.record(EVENT_SET, number, p);
                }
            } else if (isInside(p)) {
                set &= ~bit;
                journal.record(EVENT_NOT_SET, number, p);
            }
        }

        private boolean isBeyond(int p) {
            return p == PRESSURE ? readings[p] < limitOf(p) : readings[p] > limitOf(p);
        }

        private boolean isInside(int p) {
            return p == PRESSURE
                    ? readings[p] > limitOf(p) + HYSTERESIS
                    : readings[p] < limitOf(p) - HYSTERESIS;
        }

        int limitOf(int p) {
            if (p == POWER) {
                return POWER_LIMIT;
            }
            if (p == PRESSURE) {
                return PRESSURE_LIMIT;
            }
            int missing = Math.max(0, FULL_PRESSURE - readings[PRESSURE]);
            return onCurve(readings[POWER]) - (missing + 3) / 4;
        }

        private static int onCurve(int power) {
            int left = power / CURVE_STEP;
            if (left >= CURVE.length - 1) {
                return CURVE[CURVE.length - 1];
            }
            int rise = CURVE[left + 1] - CURVE[left];
            return CURVE[left] + Math.floorDiv(rise * (power % CURVE_STEP), CURVE_STEP);
        }
    }

    /** A train: what the channels told it, what it demands of that, and what it has latched. */
    private static final class Train {
        private static final int BREAKER = 1;
        /** For each function the demands that make it run, all of them together. */
        private static final int[] NEEDED = {2, 4, 3};

        private final int number;
        private final int[] told = new int[CHANNELS];
        private int demanded = 0;
        private int latches = 0;

        Train(int number) {
            this.number = number;
        }

        void decide(int bypassed, Journal journal) {
            int demandedBefore = demanded;
            demanded = 0;
            for (int p = 0; p < PARAMETERS; p++) {
                if (countVotes(p, bypassed) >= VOTES_FOR_DEMAND) {
                    demanded |= 1 << p;
                    if ((demandedBefore & (1 << p)) == 0) {
                        journal.record(EVENT_DEMAND, number, p);
                    }
                }
            }
            if (demanded != 0) {
                latch(journal);
            }
        }

        private int countVotes(int p, int bypassed) {
            int count = 0;
            for (int c = 0; c < CHANNELS; c++) {
                if (c != bypassed) {
                    count += (told[c] >> p) & 1;
                }
            }
            return count;
        }

        private void latch(Journal journal) {
            if ((latches & BREAKER) == 0) {
                latches |= BREAKER;
                journal.record(EVENT_BREAKER, number, 0);
            }
            for (int f = 0; f < FUNCTIONS; f++) {
                int bit = 2 << f;
                if ((demanded & NEEDED[f]) == NEEDED[f] && (latches & bit) == 0) {
                    latches |= bit;
                    journal.record(EVENT_FUNCTION, number, f);
                }
            }
        }
    }

    /** The links from each channel to each train; a frame is a word of three bytes, lowest first. */
    private static final class Links {
        private static final int THREE_BYTES = 0xFFFFFF;
        private static final int CHECK_PATTERN = 263;

        /** The word 0 is the good frame of time 0 without a bit, which is what tick 1 shall find. */
        private final int[] frames = new int[CHANNELS * TRAINS];
        private final int[] faults = new int[CHANNELS * TRAINS];

        Links() {
            Arrays.fill(faults, NONE);
        }

        void disturb(int channel, int train, int word) {
            faults[channel * TRAINS + train] = word & THREE_BYTES;
        }

        void send(int channel, int frame) {
            for (int t = 0; t < TRAINS; t++) {
                int link = channel * TRAINS + t;
                frames[link] = faults[link] == NONE ? frame : faults[link];
                faults[link] = NONE;
            }
        }

        int frameOf(int channel, int train) {
            return frames[channel * TRAINS + train];
        }

        static int frameWith(int time, int message) {
            int stamp = time & BYTE;
            return stamp | (message << 8) | (checkOf(stamp, message) << 16);
        }

        static int messageOf(int frame) {
            return (frame >> 8) & BYTE;
        }

        static boolean isGood(int frame, int sentAt) {
            return frame == frameWith(sentAt, messageOf(frame));
        }

        private static int checkOf(int first, int second) {
            return checkStep(checkStep(0, first), second);
        }

        private static int checkStep(int check, int next) {
            int c = check ^ next;
            for (int i = 0; i < 8; i++) {
                c = c << 1;
                if (c > BYTE) {
                    c = c ^ CHECK_PATTERN;
                }
            }
            return c;
        }
    }

    /** The test that is under way, if one is, and how those before it ended. */
    private static final class Trial {
        private static final int FIRST_BIT = 3;

        private int channel = NONE;
        private int parameter = 0;
        private boolean sent = false;
        private int passed = 0;
        private int failed = 0;

        void begin(int ofChannel, int ofParameter) {
            channel = ofChannel;
            parameter = ofParameter;
            sent = false;
        }

        /** The bit that the test under way puts into what a channel sends, 0 if it is of another. */
        int bitOn(int ofChannel) {
            return channel == ofChannel ? 1 << (FIRST_BIT + parameter) : 0;
        }

        void end(boolean seen) {
            if (seen) {
                passed++;
            } else {
                failed++;
            }
            channel = NONE;
        }
    }

    /** The time, and what happened: the last events, each in a row that a later one takes over. */
    private static final class Journal {
        private static final int KEPT = 40;
        private static final int COLUMNS = 4;

        private final int[] rows = new int[KEPT * COLUMNS];
        private int time = 0;
        private int total = 0;

        void record(int kind, int first, int second) {
            int row = rowOf(total);
            rows[row] = time;
            rows[row + 1] = kind;
            rows[row + 2] = first;
            rows[row + 3] = second;
            total++;
        }

        boolean keeps(int number) {
            return number >= 0 && number < total && number >= total - KEPT;
        }

        int read(int number, int column) {
            return rows[rowOf(number) + column];
        }

        private static int rowOf(int number) {
            return Math.floorMod(number, KEPT) * COLUMNS;
        }
    }
}
