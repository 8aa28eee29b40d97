/** The edges of the office: section Terms (OFFICE, KNOWN, LOST money) and promise 13. */
public final class EdgesOfOfficeTest {
    private final Checks checks = new Checks();

    public static void main(String[] args) {
        EdgesOfOfficeTest test = new EdgesOfOfficeTest();
        test.nothingEntered();
        test.nothingArrivedYet();
        test.firstCounterIsNext();
        test.gapBeforeTheFirstEntry();
        test.gapOfOneAndOfMany();
        test.gapBeforeAnEntryAndATopUp();
        test.gapOfFreeTaps();
        test.gapAtTheEndIsNone();
        test.gapsThatFillUp();
        test.gapsBelowNothing();
        test.sumsOfChargesAndTopUps();
        test.entriesAreOfOneCard();
        test.greatestNumberOfEntries();
        test.greatestGap();
        test.numbersOutOfRange();
        test.checks.finish();
    }

    private void officeIs(TapOffice x, String when, int card, int... want) {
        for (int what = 0; what < 6; what++) {
            checks.due(when + ": office(" + card + ", " + what + ")", x.office(card, what), want[what]);
        }
    }

    private void nothingEntered() {
        checks.sentence("KNOWN entries of the card (0), its greatest COUNTER at the office (1; 0 if none)");
        TapOffice x = new TapOffice();
        for (int card = 0; card < 4; card++) {
            officeIs(x, "nothing entered", card, 0, 0, 0, 0, 0, 0);
        }
    }

    private void nothingArrivedYet() {
        checks.sentence("For each card and COUNTER it has an entry or none.");
        TapOffice x = Scenes.exits();
        x.tap(0, 0, 0);
        x.tap(0, 1, 0);
        x.tap(0, 2, 8);
        x.upload(0, true);
        x.upload(2, false);
        x.upload(3, false);
        officeIs(x, "nothing arrived", 0, 0, 0, 0, 0, 0, 0);
    }

    private void firstCounterIsNext() {
        checks.sentence("from a start with COUNTER 0 and BALANCE 0: where the COUNTER is not the next one");
        TapOffice filled = new TapOffice();
        filled.topUp(0, 50);
        officeIs(filled, "a top up first", 0, 1, 1, 0, 0, 0, 50);
        TapOffice tapped = Scenes.exits();
        tapped.tap(0, 0, 0);
        tapped.upload(0, false);
        officeIs(tapped, "a tap first", 0, 1, 1, 0, 0, 10, 0);
    }

    private void gapBeforeTheFirstEntry() {
        checks.sentence("from a start with COUNTER 0 and BALANCE 0");
        TapOffice filled = Scenes.exits();
        filled.tap(0, 0, 8);
        filled.topUp(0, 50);
        officeIs(filled, "COUNTER 2 is a top up", 0, 1, 2, 1, 10, 0, 50);
        TapOffice tapped = Scenes.exits();
        tapped.tap(0, 0, 8);
        tapped.tap(0, 1, 0);
        tapped.upload(1, false);
        officeIs(tapped, "COUNTER 2 is a tap", 0, 1, 2, 1, 10, 10, 0);
    }

    private void gapOfOneAndOfMany() {
        checks.sentence("where the COUNTER is not the next one, what the BALANCE before .. is less than the BALANCE of the entry before it");
        for (int missing = 0; missing <= 5; missing++) {
            TapOffice x = Scenes.exits();
            x.topUp(2, 500);
            for (int i = 0; i < missing; i++) {
                x.tap(2, 3, 8);
            }
            x.topUp(2, 7);
            officeIs(x, missing + " missing", 2, 2, 2 + missing, missing, 10 * missing, 0, 507);
        }
    }

    private void gapBeforeAnEntryAndATopUp() {
        checks.sentence("the BALANCE before (BALANCE + CHARGE of an entry, BALANCE - amount of a top up)");
        TapOffice x = Scenes.exits();
        x.topUp(1, 100);
        x.tap(1, 0, 8);
        x.fare(0, 0, 33);
        x.tap(1, 1, 0);
        x.upload(1, false);
        officeIs(x, "a gap before an entry", 1, 2, 3, 1, 10, 33, 100);
        x.tap(1, 0, 8);
        x.topUp(1, 9);
        officeIs(x, "a gap before a top up", 1, 3, 5, 2, 43, 33, 109);
        x.topUp(1, 1);
        x.tap(1, 1, 0);
        x.upload(1, false);
        officeIs(x, "no gap more", 1, 5, 7, 2, 43, 66, 110);
    }

    private void gapOfFreeTaps() {
        checks.sentence("COUNTERS from 1 on below that without an entry (2), LOST money (3)");
        TapOffice x = new TapOffice();
        x.tap(0, 0, 8);
        x.topUp(0, 5);
        x.tap(0, 1, 8);
        x.topUp(0, 6);
        officeIs(x, "two gaps without money", 0, 2, 4, 2, 0, 0, 11);
    }

    private void gapAtTheEndIsNone() {
        checks.sentence("COUNTERS from 1 on below that without an entry (2)");
        TapOffice x = Scenes.exits();
        x.topUp(0, 100);
        x.tap(0, 0, 8);
        x.tap(0, 1, 0);
        officeIs(x, "nothing came behind it", 0, 1, 1, 0, 0, 0, 100);
        x.tap(0, 2, 7);
        x.topUp(0, 1);
        officeIs(x, "a tear of 7 leaves no gap", 0, 2, 4, 2, 20, 0, 101);
    }

    private void gapsThatFillUp() {
        checks.sentence("going through its entries by COUNTER");
        TapOffice x = Scenes.exits();
        x.topUp(3, 100);
        for (int validator = 0; validator < 4; validator++) {
            x.fare(0, 0, 10 + validator);
            x.tap(3, validator, 0);
        }
        x.upload(3, false);
        officeIs(x, "the last came first", 3, 2, 5, 3, 33, 13, 100);
        x.upload(1, false);
        officeIs(x, "then one amid the gap", 3, 3, 5, 2, 22, 24, 100);
        x.upload(2, false);
        officeIs(x, "then the end of the gap", 3, 4, 5, 1, 10, 36, 100);
        x.upload(0, false);
        officeIs(x, "then the rest", 3, 5, 5, 0, 0, 46, 100);
    }

    private void gapsBelowNothing() {
        checks.sentence("the BALANCE of the entry before it (may be below 0), summed up.");
        TapOffice x = Scenes.exits();
        x.tap(0, 0, 0);
        x.upload(0, false);
        x.tap(0, 0, 8);
        x.tap(0, 0, 0);
        x.upload(0, false);
        officeIs(x, "from -10 to -20", 0, 2, 3, 1, 10, 20, 0);
        x.tap(0, 0, 8);
        x.topUp(0, 5);
        officeIs(x, "from -30 to -40", 0, 3, 5, 2, 20, 20, 5);
    }

    private void sumsOfChargesAndTopUps() {
        checks.sentence("all CHARGES known (4), all top ups (5)");
        TapOffice x = new TapOffice();
        x.fare(0, 0, 999);
        x.place(0, 0, true);
        for (int i = 0; i < 45; i++) {
            x.topUp(0, 999);
            x.tap(0, 0, 0);
            x.upload(0, false);
            x.clock(1440);
        }
        officeIs(x, "90 entries", 0, 90, 90, 0, 0, 44955, 44955);
        x.tap(0, 0, 8);
        officeIs(x, "a torn tap is in no sum", 0, 90, 90, 0, 0, 44955, 44955);
    }

    private void entriesAreOfOneCard() {
        checks.sentence("For each card and COUNTER it has an entry or none.");
        TapOffice x = Scenes.withFullLog(0);
        x.topUp(3, 5);
        x.upload(0, false);
        for (int card = 0; card < 3; card++) {
            officeIs(x, "two taps", card, 2, 2, 0, 0, 20, 0);
        }
        officeIs(x, "two taps and a top up", 3, 3, 3, 0, 0, 20, 5);
    }

    private void greatestNumberOfEntries() {
        checks.sentence("An object is used for at most 512 calls .. KNOWN: entries of a card that it has.");
        int[] want = {511, 511, 0, 0, 0, 511};
        for (int what = 0; what < 6; what++) {
            TapOffice x = new TapOffice();
            for (int i = 0; i < 511; i++) {
                x.topUp(0, 1);
            }
            checks.due("office(0, " + what + ") of 511 top ups", x.office(0, what), want[what]);
        }
    }

    private void greatestGap() {
        checks.sentence("COUNTERS from 1 on below that without an entry (2), LOST money (3)");
        int[] want = {1, 500, 499, 4990, 0, 9};
        for (int what = 0; what < 6; what++) {
            TapOffice x = Scenes.exits();
            for (int i = 0; i < 499; i++) {
                x.tap(3, 0, 8);
            }
            x.topUp(3, 9);
            checks.due("office(3, " + what + ") of 499 torn taps", x.office(3, what), want[what]);
        }
    }

    private void numbersOutOfRange() {
        checks.sentence("office: REFUSED for others.");
        TapOffice x = new TapOffice();
        x.topUp(0, 5);
        x.topUp(3, 5);
        for (int bad : Arguments.outside(0, 5)) {
            checks.due("office(0, " + bad + ")", x.office(0, bad), TapOffice.REFUSED);
            checks.due("office(3, " + bad + ")", x.office(3, bad), TapOffice.REFUSED);
        }
        for (int bad : Arguments.outside(0, 3)) {
            checks.due("office(" + bad + ", 0)", x.office(bad, 0), TapOffice.REFUSED);
            checks.due("office(" + bad + ", 5)", x.office(bad, 5), TapOffice.REFUSED);
        }
    }
}
