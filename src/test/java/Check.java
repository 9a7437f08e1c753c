/** Counts what is not as due, and says so; every test of the project ends with finish(). */
final class Check {
    /** A call that may throw. */
    interface Call {
        void make();
    }

    /** A call with one number that may throw. */
    interface NumberCall {
        void make(int number);
    }

    private int wrong = 0;
    private int looked = 0;
    private String sentence = "";

    /** Runs the test of one sentence of the document; whatever is not as due in it is told with the sentence. */
    void sentence(String words, Call test) {
        sentence = "\"" + words + "\": ";
        int lookedBefore = looked;
        try {
            test.make();
        } catch (RuntimeException e) {
            tell("the test was ended by " + e);
        }
        if (looked == lookedBefore) {
            tell("the test looked at nothing");
        }
        sentence = "";
    }

    private void tell(String text) {
        wrong++;
        System.out.println(sentence + text);
    }

    void same(String what, long got, long due) {
        looked++;
        if (got != due) {
            tell(what + " answered " + got + ", due is " + due);
        }
    }

    void same(String what, String got, String due) {
        looked++;
        if (!got.equals(due)) {
            tell(what + " answered " + got + ", due is " + due);
        }
    }

    /** The call must throw exactly this exception. */
    void refused(String what, Class<? extends RuntimeException> due, Call call) {
        String got = "nothing";
        try {
            call.make();
        } catch (RuntimeException e) {
            got = e.getClass().getName();
        }
        same(what + " throws", got, due.getName());
    }

    void badArgument(String what, Call call) {
        refused(what, IllegalArgumentException.class, call);
    }

    void badState(String what, Call call) {
        refused(what, IllegalStateException.class, call);
    }

    /** Every number from the lowest to the highest is taken; those outside are refused as arguments. */
    void takesOnly(String what, int lowest, int highest, NumberCall call) {
        for (int n = lowest; n <= highest; n++) {
            taken(what + " with " + n, n, call);
        }
        int[] outside = {lowest - 1, highest + 1, lowest - 256, highest + 256, lowest + 65536,
            Integer.MIN_VALUE, Integer.MAX_VALUE};
        for (int n : outside) {
            badArgument(what + " with " + n, () -> call.make(n));
        }
    }

    private void taken(String what, int n, NumberCall call) {
        String got = "nothing";
        try {
            call.make(n);
        } catch (RuntimeException e) {
            got = e.getClass().getName();
        }
        same(what + " throws", got, "nothing");
    }

    /** The events from a number on, each as time:kind(first,second). */
    static String events(TripGuard x, int from) {
        StringBuilder text = new StringBuilder();
        int total = x.figure(1);
        for (int n = from; n < total; n++) {
            text.append(n > from ? " " : "").append(x.event(n, 0)).append(':').append(x.event(n, 1));
            text.append('(').append(x.event(n, 2)).append(',').append(x.event(n, 3)).append(')');
        }
        return text.toString();
    }

    /** All that the face tells of an object, without its events. */
    static String state(TripGuard x) {
        StringBuilder text = new StringBuilder();
        for (int i = 0; i < 4; i++) {
            text.append(x.demands(i)).append('/').append(x.latched(i)).append(':');
            for (int j = 0; j < 4; j++) {
                text.append(x.votes(i, j)).append(j < 3 ? "," : ";");
            }
            for (int j = 0; j < 3; j++) {
                text.append(x.channel(i, j)).append(',').append(x.limit(i, j)).append(j < 2 ? "," : " ");
            }
        }
        for (int k = 0; k < 7; k++) {
            text.append(x.figure(k)).append(' ');
        }
        return text.append(x.tripped()).toString();
    }

    static void ticks(TripGuard x, int count) {
        for (int i = 0; i < count; i++) {
            x.tick();
        }
    }

    /** The same value for a parameter in every channel. */
    static void senseAll(TripGuard x, int parameter, int value) {
        for (int c = 0; c < 4; c++) {
            x.sense(c, parameter, value);
        }
    }

    void finish() {
        if (wrong != 0) {
            System.out.println(wrong + " of " + looked + " are not as due");
            System.exit(1);
        }
        System.out.println(looked + " as due");
    }
}
