/** Promise 15: count. */
public final class CountTest {
    public static void main(String[] args) {
        Checks checks = new Checks();
        TapOffice x = new TapOffice();
        x.clock(77);
        x.clock(3);
        x.deny(1, true);
        x.deny(3, true);
        x.deny(3, false);
        for (int validator = 0; validator < 4; validator++) {
            for (int i = 0; i <= validator; i++) {
                x.tap(i, validator, 0);
            }
            x.tap(0, validator, 1 + validator);
            x.tap(0, validator, 8);
        }
        countsAre(x, checks, 80, 10, 8, 1);
        x.topUp(0, 5);
        countsAre(x, checks, 80, 10, 8, 1);
        x.upload(3, true);
        countsAre(x, checks, 80, 10, 8, 1);
        x.upload(3, false);
        countsAre(x, checks, 80, 6, 8, 1);
        x.set(4, 999);
        x.tap(1, 3, 2);
        x.tap(2, 3, 2);
        x.tap(9, 3, 2);
        countsAre(x, checks, 80, 6, 8, 1);
        for (int bad : Checks.outside(3)) {
            checks.due("count(" + bad + ")", x.count(bad), TapOffice.REFUSED);
        }
        fullLogs(checks);
        checks.finish();
    }

    private static void fullLogs(Checks checks) {
        TapOffice x = new TapOffice();
        for (int i = 0; i < 36; i++) {
            x.tap(0, i % 4, 0);
        }
        countsAre(x, checks, 0, 32, 0, 0);
    }

    private static void countsAre(TapOffice x, Checks checks, int... want) {
        for (int what = 0; what < 4; what++) {
            checks.due("count(" + what + ")", x.count(what), want[what]);
        }
    }
}
