/** Promise 13: office. */
public final class OfficeTest {
    public static void main(String[] args) {
        Checks checks = new Checks();
        logsOutOfOrder(checks);
        gapAtTheStart(checks);
        severalGaps(checks);
        gapsFill(checks);
        manyEntries(checks);
        wrongInputs(checks);
        checks.finish();
    }

    /** Exits in zones 0 .. 3 with full fares of 10, 20, 30 and 40. */
    private static TapOffice exits() {
        TapOffice x = new TapOffice();
        for (int i = 0; i < 4; i++) {
            x.fare(i, i, 10 + i * 10);
            x.place(i, i, true);
        }
        return x;
    }

    private static void officeIs(TapOffice x, int card, Checks checks, int... want) {
        for (int what = 0; what < 6; what++) {
            checks.due("office(" + card + ", " + what + ")", x.office(card, what), want[what]);
        }
    }

    private static void logsOutOfOrder(Checks checks) {
        TapOffice x = exits();
        x.topUp(1, 100);
        x.tap(1, 0, 0);
        x.tap(1, 1, 0);
        x.tap(1, 2, 0);
        officeIs(x, 1, checks, 1, 1, 0, 0, 0, 100);
        x.upload(2, false);
        officeIs(x, 1, checks, 2, 4, 2, 30, 30, 100);
        x.upload(0, false);
        officeIs(x, 1, checks, 3, 4, 1, 20, 40, 100);
        x.upload(1, false);
        officeIs(x, 1, checks, 4, 4, 0, 0, 60, 100);
        officeIs(x, 0, checks, 0, 0, 0, 0, 0, 0);
    }

    private static void gapAtTheStart(Checks checks) {
        TapOffice x = exits();
        x.tap(0, 3, 8);
        x.topUp(0, 25);
        officeIs(x, 0, checks, 1, 2, 1, 40, 0, 25);
        TapOffice first = exits();
        first.tap(0, 3, 8);
        first.tap(0, 0, 0);
        first.upload(0, false);
        officeIs(first, 0, checks, 1, 2, 1, 40, 10, 0);
    }

    private static void severalGaps(Checks checks) {
        TapOffice x = exits();
        x.topUp(2, 500);
        x.tap(2, 0, 8);
        x.tap(2, 1, 0);
        x.tap(2, 1, 0);
        x.tap(2, 2, 8);
        x.tap(2, 3, 8);
        x.topUp(2, 60);
        x.tap(2, 3, 7);
        x.tap(2, 3, 8);
        x.upload(1, false);
        officeIs(x, 2, checks, 4, 7, 3, 80, 40, 560);
        x.topUp(2, 1);
        officeIs(x, 2, checks, 5, 9, 4, 120, 40, 561);
    }

    private static void gapsFill(Checks checks) {
        TapOffice x = exits();
        x.tap(3, 0, 0);
        x.topUp(3, 7);
        x.tap(3, 1, 0);
        x.topUp(3, 8);
        officeIs(x, 3, checks, 2, 4, 2, 30, 0, 15);
        x.upload(1, false);
        officeIs(x, 3, checks, 3, 4, 1, 10, 20, 15);
        x.upload(0, false);
        officeIs(x, 3, checks, 4, 4, 0, 0, 30, 15);
    }

    private static void manyEntries(Checks checks) {
        TapOffice x = exits();
        for (int i = 0; i < 497; i++) {
            x.topUp(0, 1);
        }
        x.tap(0, 0, 8);
        officeIs(x, 0, checks, 497, 497, 0, 0, 0, 497);
        mostEntries(checks);
    }

    /** 511 changes of one card, and the 512th call reads what the office has of them. */
    private static void mostEntries(Checks checks) {
        int[] want = {509, 511, 2, 0, 0, 509};
        for (int what = 0; what < 6; what++) {
            TapOffice x = new TapOffice();
            for (int i = 0; i < 508; i++) {
                x.topUp(0, 1);
            }
            x.tap(0, 0, 8);
            x.tap(0, 1, 8);
            x.topUp(0, 1);
            checks.due("office(0, " + what + ") in the end", x.office(0, what), want[what]);
        }
    }

    private static void wrongInputs(Checks checks) {
        TapOffice x = exits();
        x.topUp(0, 5);
        for (int bad : Checks.outside(5)) {
            checks.due("office(0, " + bad + ")", x.office(0, bad), TapOffice.REFUSED);
        }
        for (int bad : Checks.outside(3)) {
            checks.due("office(" + bad + ", 0)", x.office(bad, 0), TapOffice.REFUSED);
        }
    }
}
