/** Promise 2: fare. */
public final class FareTest {
    public static void main(String[] args) {
        Checks checks = new Checks();
        everyPairBothWays(checks);
        fullFareIsTheGreatest(checks);
        wrongInputs(checks);
        checks.finish();
    }

    private static void everyPairBothWays(Checks checks) {
        for (int a = 0; a < 6; a++) {
            for (int b = 0; b < 6; b++) {
                TapOffice x = new TapOffice();
                checks.due("fare(" + a + ", " + b + ", 70)", x.fare(a, b, 70), 0);
                checks.due("fare " + a + " to " + b, journey(x, a, b), 70);
                checks.due("fare " + b + " to " + a, journey(x, b, a), 70);
                checks.due("fare beside it", journey(x, a, (b + 1) % 6), 0);
            }
        }
        TapOffice x = new TapOffice();
        checks.due("fare(2, 4, 999)", x.fare(2, 4, 999), 0);
        checks.due("the greatest fare", journey(x, 2, 4), 999);
        checks.due("fare(4, 2, 1)", x.fare(4, 2, 1), 0);
        checks.due("the new fare", journey(x, 2, 4), 1);
        checks.due("fare(2, 4, 0)", x.fare(2, 4, 0), 0);
        checks.due("no fare", journey(x, 2, 4), 0);
    }

    private static int journey(TapOffice x, int from, int to) {
        x.clock(31);
        x.upload(0, false);
        x.topUp(3, 999);
        x.place(0, from, false);
        x.tap(3, 0, 0);
        x.place(0, to, true);
        return x.tap(3, 0, 0);
    }

    private static void fullFareIsTheGreatest(Checks checks) {
        for (int b = 0; b < 6; b++) {
            TapOffice x = new TapOffice();
            for (int other = 0; other < 6; other++) {
                x.fare(3, other, other == b ? 90 : 20 + other);
            }
            x.fare(4, 5, 500);
            x.place(0, 3, true);
            checks.due("full fare of 3 is that to " + b, x.tap(0, 0, 0), 90);
        }
    }

    private static void wrongInputs(Checks checks) {
        TapOffice x = new TapOffice();
        x.fare(0, 5, 33);
        for (int bad : Checks.outside(5)) {
            checks.due("fare(" + bad + ", 0, 1)", x.fare(bad, 0, 1), TapOffice.REFUSED);
            checks.due("fare(0, " + bad + ", 1)", x.fare(0, bad, 1), TapOffice.REFUSED);
        }
        for (int bad : Checks.outside(999)) {
            checks.due("fare(0, 5, " + bad + ")", x.fare(0, 5, bad), TapOffice.REFUSED);
        }
        checks.due("the fare stays", journey(x, 0, 5), 33);
        checks.due("the fare back stays", journey(x, 5, 0), 33);
    }
}
