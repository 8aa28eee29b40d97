/** The edges of settings and prices: section Terms (SETTINGS, PRICE) and promise 3. */
public final class EdgesOfSettingsTest {
    private static final int[] MOST = {1440, 1440, 200, 9999, 999};

    private final Checks checks = new Checks();

    public static void main(String[] args) {
        EdgesOfSettingsTest test = new EdgesOfSettingsTest();
        test.settingsAtFirst();
        test.everySettingHasALeastAndAGreatest();
        test.everySettingRefusesOtherValues();
        test.thereAreFiveSettings();
        test.peakPercentAtItsEdges();
        test.capAtItsEdges();
        test.leastAtItsEdges();
        test.moreIsRoundedDown();
        test.peakHasAFirstAndALastMinute();
        test.checks.finish();
    }

    /** An exit in zone 0, where a tap without a journey costs the price of the amount. */
    private static TapOffice exit(int amount) {
        TapOffice x = new TapOffice();
        x.fare(0, 0, amount);
        x.place(0, 0, true);
        return x;
    }

    private void settingsAtFirst() {
        checks.sentence("0 PEAK FROM, 1 PEAK TO (.. 0 at first), 2 PEAK PERCENT .. (0), 3 CAP .. (9999), 4 LEAST .. (0).");
        TapOffice from = exit(10);
        from.set(1, 1);
        from.set(2, 100);
        checks.due("PEAK FROM is 0", from.tap(0, 0, 0), 20);
        TapOffice to = exit(10);
        to.set(2, 100);
        checks.due("PEAK TO is 0", to.tap(0, 0, 0), 10);
        TapOffice percent = exit(999);
        percent.set(1, 1440);
        checks.due("PEAK PERCENT is 0", percent.tap(0, 0, 0), 999);
        TapOffice cap = exit(999);
        cap.set(1, 1440);
        cap.set(2, 200);
        checks.due("CAP is 9999, tap 1", cap.tap(0, 0, 0), 2997);
        checks.due("CAP is 9999, tap 2", cap.tap(0, 0, 0), 2997);
        checks.due("CAP is 9999, tap 3", cap.tap(0, 0, 0), 2997);
        checks.due("CAP is 9999, tap 4", cap.tap(0, 0, 0), 1008);
        checks.due("LEAST is not above 0", new TapOffice().tap(0, 0, 0), 0);
        TapOffice least = exit(1);
        least.tap(0, 0, 0);
        checks.due("LEAST is not below 0", least.tap(0, 1, 0), TapOffice.LOW);
    }

    private void everySettingHasALeastAndAGreatest() {
        checks.sentence("Setting 0 .. 4 gets a value in its range. 0");
        for (int setting = 0; setting < 5; setting++) {
            for (int value : new int[] {0, 1, MOST[setting] - 1, MOST[setting]}) {
                checks.due("set(" + setting + ", " + value + ")", new TapOffice().set(setting, value), 0);
            }
        }
    }

    private void everySettingRefusesOtherValues() {
        checks.sentence("Setting 0 .. 4 gets a value in its range. .. or REFUSED.");
        for (int setting = 0; setting < 5; setting++) {
            for (int bad : Arguments.outside(0, MOST[setting])) {
                checks.due("set(" + setting + ", " + bad + ")", new TapOffice().set(setting, bad), TapOffice.REFUSED);
            }
        }
    }

    private void thereAreFiveSettings() {
        checks.sentence("Setting 0 .. 4");
        for (int bad : Arguments.outside(0, 4)) {
            checks.due("set(" + bad + ", 0)", new TapOffice().set(bad, 0), TapOffice.REFUSED);
            checks.due("set(" + bad + ", 1)", new TapOffice().set(bad, 1), TapOffice.REFUSED);
        }
    }

    private void peakPercentAtItsEdges() {
        checks.sentence("2 PEAK PERCENT 0 .. 200");
        TapOffice x = exit(100);
        x.set(1, 1440);
        int[][] due = {{200, 300}, {199, 299}, {1, 101}, {0, 100}};
        for (int[] row : due) {
            x.set(2, row[0]);
            checks.due("a percent of " + row[0], x.tap(0, 0, 0), row[1]);
        }
        x.set(2, 200);
        x.set(2, 201);
        checks.due("201 does not count", x.tap(0, 0, 0), 300);
        x.set(2, -1);
        checks.due("-1 does not count", x.tap(0, 0, 0), 300);
    }

    private void capAtItsEdges() {
        checks.sentence("3 CAP 0 .. 9999");
        TapOffice x = exit(999);
        x.set(3, 0);
        checks.due("a cap of 0", x.tap(0, 0, 0), 0);
        x.set(3, 1);
        checks.due("a cap of 1", x.tap(0, 0, 0), 1);
        x.set(3, 10000);
        checks.due("10000 does not count", x.tap(0, 0, 0), 0);
        x.set(3, -1);
        x.set(1, 1440);
        x.set(2, 200);
        checks.due("-1 does not count", x.tap(1, 0, 0), 1);
        x.set(3, 9999);
        checks.due("a cap of 9999, tap 1", x.tap(0, 0, 0), 2997);
        checks.due("a cap of 9999, tap 2", x.tap(0, 0, 0), 2997);
        checks.due("a cap of 9999, tap 3", x.tap(0, 0, 0), 2997);
        x.upload(0, false);
        checks.due("a cap of 9999, tap 4", x.tap(0, 0, 0), 1007);
        checks.due("a cap of 9999, tap 5", x.tap(0, 0, 0), 0);
    }

    private void leastAtItsEdges() {
        checks.sentence("4 LEAST 0 .. 999");
        TapOffice x = new TapOffice();
        x.set(4, 999);
        x.topUp(0, 998);
        checks.due("998 with a LEAST of 999", x.tap(0, 0, 0), TapOffice.LOW);
        x.set(4, 1000);
        x.topUp(0, 1);
        checks.due("999 with a LEAST of 999, 1000 does not count", x.tap(0, 0, 0), 0);
        x.set(4, -1);
        checks.due("0 with a LEAST of 999, -1 does not count", x.tap(1, 0, 0), TapOffice.LOW);
        x.set(4, 1);
        checks.due("0 with a LEAST of 1", x.tap(1, 0, 0), TapOffice.LOW);
        x.set(4, 0);
        checks.due("0 with a LEAST of 0", x.tap(1, 0, 0), 0);
    }

    private void moreIsRoundedDown() {
        checks.sentence("x, and x * PEAK PERCENT / 100 (rounded down) more");
        int[][] rows = {{0, 200, 0}, {1, 0, 1}, {1, 1, 1}, {1, 99, 1}, {1, 100, 2}, {1, 199, 2}, {1, 200, 3},
            {99, 1, 99}, {100, 1, 101}, {101, 1, 102}, {199, 1, 200}, {3, 33, 3}, {3, 34, 4}, {3, 67, 5},
            {333, 50, 499}, {999, 0, 999}, {999, 1, 1008}, {999, 100, 1998}, {999, 199, 2987}, {999, 200, 2997}};
        for (int[] row : rows) {
            TapOffice x = exit(row[0]);
            x.set(1, 1440);
            x.set(2, row[1]);
            checks.due("price of " + row[0] + " with " + row[1] + " percent", x.tap(0, 0, 0), row[2]);
        }
    }

    private void peakHasAFirstAndALastMinute() {
        checks.sentence("if the minute of the day is PEAK FROM or later and before PEAK TO.");
        // PEAK FROM, PEAK TO, the time, and whether it is in the peak.
        int[][] rows = {{420, 540, 419, 0}, {420, 540, 420, 1}, {420, 540, 539, 1}, {420, 540, 540, 0},
            {420, 540, 1859, 0}, {420, 540, 1860, 1}, {420, 540, 1979, 1}, {420, 540, 1980, 0},
            {0, 0, 0, 0}, {0, 1, 0, 1}, {0, 1, 1, 0}, {0, 1440, 0, 1}, {0, 1440, 1439, 1}, {0, 1440, 1440, 1},
            {1439, 1440, 1438, 0}, {1439, 1440, 1439, 1}, {1440, 1440, 1439, 0}, {1440, 0, 0, 0}, {1440, 0, 1439, 0},
            {700, 700, 700, 0}, {700, 701, 700, 1}, {701, 700, 700, 0}, {1000, 500, 0, 0}, {1000, 500, 499, 0},
            {1000, 500, 700, 0}, {1000, 500, 1000, 0}, {1000, 500, 1439, 0}};
        for (int[] row : rows) {
            TapOffice x = exit(100);
            x.set(0, row[0]);
            x.set(1, row[1]);
            x.set(2, 1);
            x.clock(row[2]);
            checks.due("peak " + row[0] + " to " + row[1] + " at " + row[2], x.tap(0, 0, 0), 100 + row[3]);
        }
    }
}
