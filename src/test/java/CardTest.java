/** Promise 11: card. */
public final class CardTest {
    public static void main(String[] args) {
        Checks checks = new Checks();
        TapOffice x = new TapOffice();
        x.fare(1, 2, 40);
        x.place(3, 2, true);
        x.topUp(1, 100);
        x.clock(1450);
        x.tap(1, 1, 0);
        x.clock(10);
        x.tap(1, 3, 0);
        x.clock(10);
        recordIs(x, checks, 60, -1, 1450, 1, 40, 1460, 3, 40);
        x.tap(1, 2, 7);
        recordIs(x, checks, 60, -1, 1450, 1, 40, 1460, 3, 40);
        x.tap(1, 2, 8);
        recordIs(x, checks, 60, 2, 1470, 1, 40, 1460, 4, 40);
        x.clock(2880 - 1 - x.count(0));
        checks.due("SPENT in the last minute of the day", x.card(1, 7), 40);
        x.clock(1);
        recordIs(x, checks, 60, 2, 1470, 1, 40, 1460, 4, 0);
        for (int bad : Checks.outside(7)) {
            checks.due("card(1, " + bad + ")", x.card(1, bad), TapOffice.REFUSED);
        }
        for (int bad : Checks.outside(3)) {
            checks.due("card(" + bad + ", 0)", x.card(bad, 0), TapOffice.REFUSED);
        }
        checks.finish();
    }

    private static void recordIs(TapOffice x, Checks checks, int... want) {
        for (int what = 0; what < 8; what++) {
            checks.due("card(1, " + what + ")", x.card(1, what), want[what]);
        }
    }
}
