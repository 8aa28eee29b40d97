/** The edges of a TAP that ends with a code, in the order of section Terms, and promise 6. */
public final class EdgesOfTapsTest {
    private final Checks checks = new Checks();

    public static void main(String[] args) {
        EdgesOfTapsTest test = new EdgesOfTapsTest();
        test.numbersOutOfRangeComeFirst();
        test.numbersAtTheirEdges();
        test.eightEntriesAreFull();
        test.tornTapsFillNoLog();
        test.fullComesBeforeTheRest();
        test.deniedIsTheSetOfTheValidator();
        test.deniedComesBeforeLow();
        test.underLeastIsLow();
        test.belowNothingIsLow();
        test.exitIsNeverLow();
        test.tearLeavesNoEntry();
        test.entryOfAWholeTap();
        test.checks.finish();
    }

    private void numbersOutOfRangeComeFirst() {
        checks.sentence("numbers out of range REFUSED, first of all.");
        TapOffice x = Scenes.withFullLog(0);
        x.deny(1, true);
        x.upload(1, false);
        x.place(2, 2, false);
        checks.due("FULL otherwise", x.tap(0, 0, 0), TapOffice.FULL);
        checks.due("DENIED otherwise", x.tap(1, 1, 0), TapOffice.DENIED);
        checks.due("LOW otherwise", x.tap(0, 2, 0), TapOffice.LOW);
        for (int bad : Arguments.outside(0, 8)) {
            checks.due("before FULL: tear " + bad, x.tap(0, 0, bad), TapOffice.REFUSED);
            checks.due("before DENIED: tear " + bad, x.tap(1, 1, bad), TapOffice.REFUSED);
            checks.due("before LOW: tear " + bad, x.tap(0, 2, bad), TapOffice.REFUSED);
            checks.due("a good tap: tear " + bad, x.tap(0, 3, bad), TapOffice.REFUSED);
        }
        for (int bad : Arguments.outside(0, 3)) {
            checks.due("before FULL: card " + bad, x.tap(bad, 0, 0), TapOffice.REFUSED);
            checks.due("before DENIED: card " + bad, x.tap(bad, 1, 0), TapOffice.REFUSED);
            checks.due("before LOW: card " + bad, x.tap(bad, 2, 8), TapOffice.REFUSED);
            checks.due("validator " + bad, x.tap(0, bad, 0), TapOffice.REFUSED);
            checks.due("a tear at validator " + bad, x.tap(0, bad, 8), TapOffice.REFUSED);
        }
        checks.due("torn taps", x.count(2), 0);
        checks.due("entries", x.count(1), 8);
    }

    private void numbersAtTheirEdges() {
        checks.sentence("A TAP, tear 0 .. 8: the CHARGE, or a code");
        for (int card : new int[] {0, 3}) {
            for (int validator : new int[] {0, 3}) {
                TapOffice x = new TapOffice();
                checks.due("tear 0", x.tap(card, validator, 0), 0);
                checks.due("tear 1", x.tap(card, validator, 1), TapOffice.TORN);
                checks.due("tear 8", x.tap(card, validator, 8), TapOffice.TORN);
                checks.due("tear 9", x.tap(card, validator, 9), TapOffice.REFUSED);
                checks.due("tear -1", x.tap(card, validator, -1), TapOffice.REFUSED);
                checks.due("COUNTER", x.card(card, 6), 2);
            }
        }
    }

    private void eightEntriesAreFull() {
        checks.sentence("The LOG has 8 entries: FULL.");
        for (int validator = 0; validator < 4; validator++) {
            TapOffice x = new TapOffice();
            for (int i = 1; i <= 8; i++) {
                checks.due("tap " + i, x.tap(i % 4, validator, 0), 0);
            }
            checks.due("tap 9", x.tap(0, validator, 0), TapOffice.FULL);
            checks.due("tap 9, torn", x.tap(0, validator, 8), TapOffice.FULL);
            checks.due("COUNTER", x.card(0, 6), 2);
            int other = 3 - validator;
            checks.due("another log has room", x.tap(0, other, 0), 0);
            x.place(validator, 5, true);
            checks.due("FULL at an exit too", x.tap(0, validator, 0), TapOffice.FULL);
            x.upload(validator, true);
            checks.due("FULL behind a lost upload", x.tap(0, validator, 0), TapOffice.FULL);
            x.upload(validator, false);
            checks.due("room behind an upload", x.tap(0, validator, 0), 0);
        }
    }

    private void tornTapsFillNoLog() {
        checks.sentence("The LOG has 8 entries: FULL. .. else there is no entry: TORN.");
        TapOffice x = new TapOffice();
        for (int i = 0; i < 20; i++) {
            checks.due("torn tap " + i, x.tap(0, 0, 1 + i % 8), TapOffice.TORN);
        }
        for (int i = 0; i < 7; i++) {
            x.tap(0, 0, 0);
        }
        checks.due("a torn tap beside 7 entries", x.tap(0, 0, 8), TapOffice.TORN);
        checks.due("the eighth entry", x.tap(0, 0, 0), 0);
        checks.due("a torn tap beside 8 entries", x.tap(0, 0, 8), TapOffice.FULL);
    }

    private void fullComesBeforeTheRest() {
        checks.sentence("in this order: The LOG has 8 entries: FULL. The card is in its DENIED set: DENIED.");
        TapOffice x = new TapOffice();
        x.deny(1, true);
        x.upload(0, false);
        x.fare(0, 0, 1);
        for (int i = 0; i < 7; i++) {
            x.tap(0, 0, 0);
            x.topUp(0, 1);
        }
        checks.due("DENIED beside 7 entries", x.tap(1, 0, 0), TapOffice.DENIED);
        x.set(4, 999);
        checks.due("LOW beside 7 entries", x.tap(0, 0, 0), TapOffice.LOW);
        x.set(4, 0);
        x.tap(0, 0, 0);
        checks.due("FULL, not DENIED, beside 8", x.tap(1, 0, 0), TapOffice.FULL);
        x.set(4, 999);
        checks.due("FULL, not LOW, beside 8", x.tap(0, 0, 0), TapOffice.FULL);
    }

    private void deniedIsTheSetOfTheValidator() {
        checks.sentence("The card is in its DENIED set: DENIED.");
        TapOffice x = Scenes.exits();
        x.deny(2, true);
        checks.due("in the office's set alone", x.tap(2, 0, 0), 10);
        x.upload(0, false);
        checks.due("in the validator's set", x.tap(2, 0, 0), TapOffice.DENIED);
        checks.due("with a tear", x.tap(2, 0, 8), TapOffice.DENIED);
        checks.due("not in another's set", x.tap(2, 1, 0), 10);
        x.place(0, 4, false);
        checks.due("DENIED at an entry too", x.tap(2, 0, 0), TapOffice.DENIED);
        x.deny(2, false);
        checks.due("in the validator's set still", x.tap(2, 0, 0), TapOffice.DENIED);
        x.topUp(2, 20);
        x.upload(0, false);
        checks.due("in no set", x.tap(2, 0, 0), 0);
    }

    private void deniedComesBeforeLow() {
        checks.sentence("The card is in its DENIED set: DENIED. ENTRY: BALANCE is under LEAST: LOW.");
        TapOffice x = new TapOffice();
        x.deny(0, true);
        x.upload(0, false);
        x.set(4, 1);
        checks.due("DENIED and LOW", x.tap(0, 0, 0), TapOffice.DENIED);
        checks.due("LOW alone", x.tap(1, 0, 0), TapOffice.LOW);
    }

    private void underLeastIsLow() {
        checks.sentence("ENTRY: BALANCE is under LEAST: LOW.");
        for (int least : new int[] {1, 2, 500, 998, 999}) {
            TapOffice x = new TapOffice();
            x.set(4, least);
            if (least > 1) {
                x.topUp(0, least - 1);
            }
            checks.due("one under a LEAST of " + least, x.tap(0, 0, 0), TapOffice.LOW);
            checks.due("with a tear", x.tap(0, 0, 8), TapOffice.LOW);
            x.topUp(0, 1);
            checks.due("a LEAST of " + least, x.tap(0, 0, 0), 0);
            x.topUp(0, 1);
            checks.due("one more than " + least, x.tap(0, 0, 0), 0);
        }
    }

    private void belowNothingIsLow() {
        checks.sentence("ENTRY: BALANCE is under LEAST: LOW.");
        TapOffice x = new TapOffice();
        x.fare(0, 0, 1);
        x.place(3, 0, true);
        checks.due("0 with a LEAST of 0", x.tap(0, 0, 0), 0);
        checks.due("to -1", x.tap(0, 3, 0), 1);
        checks.due("-1 with a LEAST of 0", x.tap(0, 0, 0), TapOffice.LOW);
        x.topUp(0, 1);
        checks.due("0 again", x.tap(0, 0, 0), 0);
        x.fare(0, 1, 999);
        checks.due("the BALANCE before the charge counts", x.tap(0, 1, 0), 999);
        checks.due("BALANCE", x.card(0, 0), -999);
    }

    private void exitIsNeverLow() {
        checks.sentence("ENTRY: BALANCE is under LEAST: LOW. .. BALANCE falls by the CHARGE (below 0 too)");
        TapOffice x = Scenes.exits();
        x.set(4, 999);
        checks.due("an exit with 0", x.tap(0, 0, 0), 10);
        checks.due("an exit with -10", x.tap(0, 0, 0), 10);
        checks.due("BALANCE", x.card(0, 0), -20);
    }

    private void tearLeavesNoEntry() {
        checks.sentence("else there is no entry: TORN.");
        for (int tear = 1; tear <= 8; tear++) {
            TapOffice x = Scenes.exits();
            checks.due("a tear of " + tear, x.tap(0, 0, tear), TapOffice.TORN);
            checks.due("no entry", x.logged(0, 0, 0), TapOffice.REFUSED);
            checks.due("in no log", x.count(1), 0);
            checks.due("torn", x.count(2), 1);
            checks.due("none goes to the office", x.upload(0, false), 0);
            checks.due("known", x.office(0, 0), 0);
        }
    }

    private void entryOfAWholeTap() {
        checks.sentence("With a TEAR 0 the LOG gets an entry: card, COUNTER, CHARGE, BALANCE, and the answer is the CHARGE");
        TapOffice x = Scenes.exits();
        x.topUp(3, 15);
        x.tap(3, 0, 7);
        x.tap(3, 0, 8);
        checks.due("the answer", x.tap(3, 0, 0), 10);
        int[] want = {3, 3, 10, -5};
        for (int what = 0; what < 4; what++) {
            checks.due("logged(0, 0, " + what + ")", x.logged(0, 0, what), want[what]);
        }
        checks.due("torn", x.count(2), 2);
    }
}
