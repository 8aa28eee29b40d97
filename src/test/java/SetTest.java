/** Promise 3: set. */
public final class SetTest {
    private static final int[] MOST = {1440, 1440, 200, 9999, 999};

    public static void main(String[] args) {
        Checks checks = new Checks();
        ranges(checks);
        peakHasEdges(checks);
        peakIsRoundedDown(checks);
        capHolds(checks);
        leastHolds(checks);
        refusedChangesNothing(checks);
        checks.finish();
    }

    private static void ranges(Checks checks) {
        TapOffice x = new TapOffice();
        for (int setting = 0; setting < 5; setting++) {
            checks.due("set(" + setting + ", 0)", x.set(setting, 0), 0);
            checks.due("set(" + setting + ", most)", x.set(setting, MOST[setting]), 0);
            for (int bad : Checks.outside(MOST[setting])) {
                checks.due("set(" + setting + ", " + bad + ")", x.set(setting, bad), TapOffice.REFUSED);
            }
        }
        for (int bad : Checks.outside(4)) {
            checks.due("set(" + bad + ", 0)", x.set(bad, 0), TapOffice.REFUSED);
        }
    }

    private static TapOffice exitAtZero(int fullFare) {
        TapOffice x = new TapOffice();
        x.fare(0, 0, fullFare);
        x.place(0, 0, true);
        return x;
    }

    private static void peakHasEdges(Checks checks) {
        TapOffice x = exitAtZero(100);
        x.set(0, 420);
        x.set(1, 540);
        x.set(2, 50);
        for (int day = 0; day < 2; day++) {
            x.clock(day * 1440 + 419 - x.count(0));
            checks.due("a minute before the peak", x.tap(0, 0, 0), 100);
            x.clock(1);
            checks.due("the first minute of the peak", x.tap(0, 0, 0), 150);
            x.clock(119);
            checks.due("the last minute of the peak", x.tap(0, 0, 0), 150);
            x.clock(1);
            checks.due("PEAK TO is outside", x.tap(0, 0, 0), 100);
        }
        TapOffice whole = exitAtZero(100);
        whole.set(1, 1440);
        whole.set(2, 200);
        checks.due("the first minute of the day", whole.tap(0, 0, 0), 300);
        whole.clock(1439);
        checks.due("the last minute of the day", whole.tap(0, 0, 0), 300);
        whole.set(0, 1440);
        checks.due("a peak from 1440", whole.tap(0, 0, 0), 100);
        whole.set(0, 1000);
        whole.set(1, 500);
        checks.due("a peak that ends before it begins", whole.tap(0, 0, 0), 100);
    }

    private static void peakIsRoundedDown(Checks checks) {
        TapOffice x = exitAtZero(333);
        x.set(1, 1440);
        x.set(2, 50);
        checks.due("333 and a half of it", x.tap(0, 0, 0), 499);
        x.set(2, 1);
        checks.due("333 and a hundredth of it", x.tap(0, 0, 0), 336);
        x.set(2, 0);
        checks.due("333 and nothing", x.tap(0, 0, 0), 333);
        x.fare(0, 0, 999);
        x.set(2, 199);
        checks.due("999 and 199 percent", x.tap(0, 0, 0), 2987);
    }

    private static void capHolds(Checks checks) {
        TapOffice x = exitAtZero(100);
        x.set(3, 150);
        checks.due("under the cap", x.tap(0, 0, 0), 100);
        checks.due("up to the cap", x.tap(0, 0, 0), 50);
        checks.due("at the cap", x.tap(0, 0, 0), 0);
        x.set(3, 20);
        checks.due("above the cap", x.tap(0, 0, 0), 0);
        checks.due("another card", x.tap(1, 0, 0), 20);
        x.set(3, 0);
        checks.due("a cap of 0", x.tap(2, 0, 0), 0);
    }

    private static void leastHolds(Checks checks) {
        TapOffice x = new TapOffice();
        x.set(4, 10);
        x.topUp(0, 9);
        checks.due("one under LEAST", x.tap(0, 0, 0), TapOffice.LOW);
        x.topUp(0, 1);
        checks.due("LEAST itself", x.tap(0, 0, 0), 0);
    }

    private static void refusedChangesNothing(Checks checks) {
        TapOffice x = exitAtZero(100);
        x.set(0, 0);
        x.set(1, 100);
        x.set(2, 10);
        x.set(3, 300);
        x.set(4, 5);
        for (int setting = 0; setting < 5; setting++) {
            x.set(setting, MOST[setting] + 1);
            x.set(setting, -1);
        }
        checks.due("peak as before", x.tap(0, 0, 0), 110);
        x.tap(0, 0, 0);
        checks.due("cap as before", x.tap(0, 0, 0), 80);
        x.topUp(1, 5);
        checks.due("least as before", x.tap(1, 1, 0), 0);
    }
}
