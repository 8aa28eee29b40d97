/** Promise 5: clock. */
public final class ClockTest {
    public static void main(String[] args) {
        Checks checks = new Checks();
        TapOffice x = new TapOffice();
        checks.due("clock(0)", x.clock(0), 0);
        checks.due("clock(1)", x.clock(1), 1);
        checks.due("clock(3000)", x.clock(3000), 3001);
        for (int bad : Checks.outside(3000)) {
            checks.due("clock(" + bad + ")", x.clock(bad), TapOffice.REFUSED);
        }
        checks.due("count(0)", x.count(0), 3001);
        checks.due("clock(0)", x.clock(0), 3001);
        x.tap(0, 0, 0);
        checks.due("SINCE", x.card(0, 2), 3001);
        checks.due("the day in the stamp", x.word(0, 1, 7), 4096 + 2);
        farthestTime(checks);
        checks.finish();
    }

    private static void farthestTime(Checks checks) {
        TapOffice x = new TapOffice();
        for (int i = 1; i <= 509; i++) {
            checks.due("clock(3000), call " + i, x.clock(3000), i * 3000);
        }
        x.tap(0, 0, 0);
        checks.due("the day in the stamp", x.word(0, 1, 7), 4096 + 1060);
        checks.due("the counter", x.card(0, 6), 1);
    }
}
