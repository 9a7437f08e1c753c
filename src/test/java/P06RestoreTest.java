/** Promise 6: restore. */
public final class P06RestoreTest {
    public static void main(String[] args) {
        Check check = new Check();
        TripGuard x = new TripGuard(1);
        check.badState("restore() of none", () -> x.restore());
        check.same("no event", x.figure(1), 0);
        x.tick();
        x.bypass(3);
        x.sense(3, 0, 4095);
        x.sense(0, 0, 4095);
        Check.ticks(x, 2);
        check.same("no demand yet", x.demands(0), 0);
        int events = x.figure(1);
        x.restore();
        check.same("event", Check.events(x, events), "3:12(3,0)");
        check.same("figure 5", x.figure(5), -1);
        check.same("its votes count again only in a tick", x.demands(0), 0);
        check.badState("restore() again", () -> x.restore());
        check.same("no event of that", x.figure(1), events + 1);
        check.same("tick", x.tick(), 8);
        check.same("demand", x.demands(0), 1);
        x.bypass(0);
        check.same("another can be bypassed", x.figure(5), 0);
        x.restore();
        check.same("events", Check.events(x, x.figure(1) - 2), "4:11(0,0) 4:12(0,0)");
        check.finish();
    }
}
