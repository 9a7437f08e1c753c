/** Frames as words for fault(), their CHECK by long division of bits instead of the document's steps. */
final class FrameWords {
    private FrameWords() {
    }

    static int good(int time, int second) {
        int first = time & 255;
        return first | second << 8 | check(first, second) << 16;
    }

    /** The remainder of the two bytes and eight zero bits behind them, divided by 263 without carries. */
    static int check(int first, int second) {
        int rest = (first << 8 | second) << 8;
        for (int bit = 23; bit >= 8; bit--) {
            if ((rest >> bit & 1) != 0) {
                rest ^= 263 << bit - 8;
            }
        }
        return rest;
    }
}
