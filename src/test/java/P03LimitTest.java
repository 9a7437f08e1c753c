/** Promise 3: limit. */
public final class P03LimitTest {
    public static void main(String[] args) {
        Check check = new Check();
        namedPoints(check);
        wholeCurve(check);
        wholePressure(check);
        fixedLimits(check);
        ofTheReadingsAsTheyAre(check);
        wrongInputs(check);
        check.finish();
    }

    private static int limitAt(int power, int pressure) {
        TripGuard x = new TripGuard(1);
        x.sense(2, 0, power);
        x.sense(2, 1, pressure);
        return x.limit(2, 2);
    }

    private static void namedPoints(Check check) {
        int[][] points = {{0, 2000, 3600}, {1000, 2000, 3300}, {2000, 2000, 2900}, {3000, 2000, 2200},
            {4000, 2000, 1500}, {4001, 2000, 1500}, {4095, 2000, 1500}, {1, 2000, 3599}, {500, 2000, 3450},
            {999, 2000, 3300}, {1001, 2000, 3299}, {1999, 2000, 2900}, {2001, 2000, 2899}, {3999, 2000, 1500},
            {3001, 2000, 2199}, {2000, 4095, 2900}, {2000, 2001, 2900}, {2000, 1999, 2899}, {2000, 1996, 2899},
            {2000, 1995, 2898}, {2000, 1997, 2899}, {2000, 1, 2400}, {2000, 0, 2400}, {4095, 0, 1000},
            {999, 1997, 3299}};
        for (int[] p : points) {
            check.same("limit at " + p[0] + ", " + p[1], limitAt(p[0], p[1]), p[2]);
        }
    }

    private static void wholeCurve(Check check) {
        long[] points = {3600, 3300, 2900, 2200, 1500};
        for (int x = 0; x <= 4095; x++) {
            int left = x / 1000;
            long k = x % 1000;
            long due = x >= 4000 ? 1500 : (points[left] * (1000 - k) + points[left + 1] * k) / 1000;
            check.same("limit at power " + x, limitAt(x, 2200), due);
        }
    }

    private static void wholePressure(Check check) {
        for (int y = 0; y <= 4095; y++) {
            long less = 0;
            while (less * 4 < 2000 - y) {
                less++;
            }
            check.same("limit at pressure " + y, limitAt(2000, y), 2900 - less);
        }
    }

    private static void fixedLimits(Check check) {
        TripGuard x = new TripGuard(1);
        for (int c = 0; c < 4; c++) {
            x.sense(c, 0, 4095);
            x.sense(c, 1, 0);
            x.sense(c, 2, 0);
            check.same("limit of power", x.limit(c, 0), 3000);
            check.same("limit of pressure", x.limit(c, 1), 1200);
        }
    }

    private static void ofTheReadingsAsTheyAre(Check check) {
        TripGuard x = new TripGuard(1);
        x.sense(1, 0, 3000);
        check.same("before a tick", x.limit(1, 2), 2200);
        check.same("of another channel", x.limit(0, 2), 2900);
        x.tick();
        check.same("after it", x.limit(1, 2), 2200);
        x.sense(1, 0, 1000);
        check.same("sensed again", x.limit(1, 2), 3300);
        x.sense(1, 2, 4095);
        check.same("its own reading has no part", x.limit(1, 2), 3300);
    }

    private static void wrongInputs(Check check) {
        TripGuard x = new TripGuard(1);
        int[][] bad = {{-1, 0}, {4, 0}, {0, -1}, {0, 3}, {Integer.MIN_VALUE, 2}, {Integer.MAX_VALUE, 2},
            {1, Integer.MIN_VALUE}, {1, Integer.MAX_VALUE}};
        for (int[] b : bad) {
            check.badArgument("limit(" + b[0] + ", " + b[1] + ")", () -> x.limit(b[0], b[1]));
        }
    }
}
