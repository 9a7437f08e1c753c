/** Promise 16: figure. */
public final class P16FigureTest {
    public static void main(String[] args) {
        Check check = new Check();
        TripGuard x = new TripGuard(1);
        figures(check, x, 0, 0, 0, 0, 0, -1, -1);
        x.tick();
        figures(check, x, 1, 0, 0, 0, 0, -1, -1);
        x.test(0, 2);
        figures(check, x, 1, 0, 0, 0, 0, -1, 0);
        x.bypass(3);
        figures(check, x, 1, 1, 0, 0, 0, 3, 0);
        x.fault(3, 0, 0);
        x.fault(3, 1, 0);
        x.tick();
        x.tick();
        figures(check, x, 3, 4, 2, 1, 0, 3, -1);
        x.test(1, 0);
        x.fault(1, 1, 0);
        x.tick();
        x.tick();
        figures(check, x, 5, 6, 3, 1, 1, 3, -1);
        x.restore();
        x.test(3, 0);
        figures(check, x, 5, 7, 3, 1, 1, -1, 3);
        for (int k : new int[] {-1, 7, Integer.MIN_VALUE, Integer.MAX_VALUE}) {
            check.badArgument("figure(" + k + ")", () -> x.figure(k));
        }
        TripGuard y = new TripGuard(1);
        y.bypass(0);
        check.same("channel 0 bypassed", y.figure(5), 0);
        check.finish();
    }

    private static void figures(Check check, TripGuard x, int... due) {
        for (int k = 0; k < due.length; k++) {
            check.same("figure(" + k + ") at time " + due[0], x.figure(k), due[k]);
        }
    }
}
