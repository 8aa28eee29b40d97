/** Promise 12: logged. */
public final class LoggedTest {
    public static void main(String[] args) {
        Checks checks = new Checks();
        TapOffice x = new TapOffice();
        x.fare(2, 2, 10);
        x.place(2, 2, true);
        for (int i = 0; i < 8; i++) {
            int next = i == 0 ? 0 : i + 1;
            checks.due("no entry " + next + " yet", x.logged(2, next, 0), TapOffice.REFUSED);
            x.tap(i % 3, 2, 0);
            x.tap(3, 2, i);
        }
        x.topUp(3, 100);
        x.tap(3, 1, 0);
        // Card 3 with a tear of 0 has the second entry; no other of its taps is logged.
        int[] cards = {0, 3, 1, 2, 0, 1, 2, 0};
        int[] counters = {1, 1, 1, 1, 2, 2, 2, 3};
        for (int i = 0; i < 8; i++) {
            checks.due("card of entry " + i, x.logged(2, i, 0), cards[i]);
            checks.due("COUNTER of entry " + i, x.logged(2, i, 1), counters[i]);
            checks.due("CHARGE of entry " + i, x.logged(2, i, 2), 10);
            checks.due("BALANCE of entry " + i, x.logged(2, i, 3), -10 * counters[i]);
        }
        checks.due("the other log", x.logged(1, 0, 0), 3);
        checks.due("has one entry", x.logged(1, 1, 0), TapOffice.REFUSED);
        for (int bad : Checks.outside(3)) {
            checks.due("logged(" + bad + ", 0, 0)", x.logged(bad, 0, 0), TapOffice.REFUSED);
            checks.due("logged(2, 0, " + bad + ")", x.logged(2, 0, bad), TapOffice.REFUSED);
        }
        for (int bad : Checks.outside(7)) {
            checks.due("logged(2, " + bad + ", 0)", x.logged(2, bad, 0), TapOffice.REFUSED);
        }
        x.upload(2, false);
        checks.due("no entry behind an upload", x.logged(2, 0, 0), TapOffice.REFUSED);
        checks.finish();
    }
}
