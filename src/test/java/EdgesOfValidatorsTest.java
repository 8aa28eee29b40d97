/** The edges of validators: section Terms (VALIDATORS) and promises 4, 12 and 15. */
public final class EdgesOfValidatorsTest {
    private final Checks checks = new Checks();

    public static void main(String[] args) {
        EdgesOfValidatorsTest test = new EdgesOfValidatorsTest();
        test.zonesAtFirst();
        test.entriesAtFirst();
        test.deniedSetsAtFirst();
        test.placeAtItsEdges();
        test.placeOutOfRange();
        test.loggedOfAnEmptyLog();
        test.loggedUpToTheNewest();
        test.loggedOfAFullLog();
        test.loggedOutOfRange();
        test.countOfNothing();
        test.countOfEntriesAtItsGreatest();
        test.countOfTornTaps();
        test.countOfDeniedCards();
        test.countOutOfRange();
        test.checks.finish();
    }

    private void zonesAtFirst() {
        checks.sentence("VALIDATORS 0 .. 3 have a zone (their number at first)");
        TapOffice x = new TapOffice();
        for (int validator = 0; validator < 4; validator++) {
            x.tap(0, validator, 0);
            checks.due("zone of validator " + validator, x.card(0, 1), validator);
        }
        for (int bad : Arguments.outside(0, 3)) {
            checks.due("tap(0, " + bad + ", 0)", x.tap(0, bad, 0), TapOffice.REFUSED);
        }
    }

    private void entriesAtFirst() {
        checks.sentence("are for ENTRY (at first) or EXIT");
        for (int validator = 0; validator < 4; validator++) {
            TapOffice x = new TapOffice();
            x.fare(validator, validator, 10);
            checks.due("tap at validator " + validator, x.tap(0, validator, 0), 0);
            checks.due("the journey is open", x.card(0, 1), validator);
            x.place(validator, validator, true);
            checks.due("tap at the exit", x.tap(0, validator, 0), 10);
            checks.due("the journey is closed", x.card(0, 1), -1);
        }
    }

    private void deniedSetsAtFirst() {
        checks.sentence("a DENIED set of cards (empty at first)");
        TapOffice x = new TapOffice();
        for (int card = 0; card < 4; card++) {
            x.deny(card, true);
        }
        for (int pair = 0; pair < 16; pair++) {
            checks.due("tap of pair " + pair, x.tap(pair / 4, pair % 4, 0), 0);
        }
    }

    private void placeAtItsEdges() {
        checks.sentence("Validator 0 .. 3 has zone 0 .. 5 and is for EXIT or for ENTRY.");
        for (int validator : new int[] {0, 3}) {
            for (int zone : new int[] {0, 5}) {
                TapOffice x = new TapOffice();
                checks.due("place as an entry", x.place(validator, zone, false), 0);
                x.tap(0, validator, 0);
                checks.due("its zone", x.card(0, 1), zone);
                x.fare(zone, 2, 9);
                checks.due("place as an exit", x.place(validator, zone, true), 0);
                checks.due("price of its zone", x.tap(1, validator, 0), 9);
                checks.due("place as an entry again", x.place(validator, zone, false), 0);
                x.tap(2, validator, 0);
                checks.due("its zone again", x.card(2, 1), zone);
            }
        }
    }

    private void placeOutOfRange() {
        checks.sentence("Validator 0 .. 3 has zone 0 .. 5 .. or REFUSED.");
        TapOffice x = new TapOffice();
        for (int bad : Arguments.outside(0, 3)) {
            checks.due("place(" + bad + ", 5, true)", x.place(bad, 5, true), TapOffice.REFUSED);
        }
        for (int bad : Arguments.outside(0, 5)) {
            checks.due("place(0, " + bad + ", true)", x.place(0, bad, true), TapOffice.REFUSED);
            checks.due("place(3, " + bad + ", false)", x.place(3, bad, false), TapOffice.REFUSED);
        }
        for (int validator = 0; validator < 4; validator++) {
            x.tap(0, validator, 0);
            checks.due("zone of validator " + validator, x.card(0, 1), validator);
        }
    }

    private void loggedOfAnEmptyLog() {
        checks.sentence("Of entry i (0 the oldest) of a validator's LOG: ..; REFUSED if there is none.");
        TapOffice x = new TapOffice();
        x.topUp(0, 5);
        x.tap(0, 1, 8);
        for (int validator = 0; validator < 4; validator++) {
            for (int what = 0; what < 4; what++) {
                checks.due("logged(" + validator + ", 0, " + what + ")", x.logged(validator, 0, what),
                    TapOffice.REFUSED);
            }
        }
    }

    private void loggedUpToTheNewest() {
        checks.sentence("Of entry i (0 the oldest) of a validator's LOG: ..; REFUSED if there is none.");
        TapOffice x = Scenes.exits();
        for (int size = 1; size <= 8; size++) {
            x.tap(size % 4, 2, 0);
            checks.due("the oldest of " + size, x.logged(2, 0, 0), 1);
            checks.due("the newest of " + size, x.logged(2, size - 1, 0), size % 4);
            checks.due("none behind " + size, x.logged(2, size, 0), TapOffice.REFUSED);
            checks.due("none before 0", x.logged(2, -1, 0), TapOffice.REFUSED);
        }
    }

    private void loggedOfAFullLog() {
        checks.sentence("0 card, 1 COUNTER, 2 CHARGE, 3 BALANCE");
        TapOffice x = Scenes.withFullLog(3);
        for (int i = 0; i < 8; i++) {
            checks.due("card of entry " + i, x.logged(3, i, 0), i % 4);
            checks.due("COUNTER of entry " + i, x.logged(3, i, 1), 1 + i / 4);
            checks.due("CHARGE of entry " + i, x.logged(3, i, 2), 10);
            checks.due("BALANCE of entry " + i, x.logged(3, i, 3), -10 * (1 + i / 4));
        }
        checks.due("entry 8", x.logged(3, 8, 0), TapOffice.REFUSED);
        checks.due("a ninth tap", x.tap(0, 3, 0), TapOffice.FULL);
        checks.due("the oldest stays", x.logged(3, 0, 1), 1);
        checks.due("the newest stays", x.logged(3, 7, 1), 2);
        checks.due("entry 8 still", x.logged(3, 8, 0), TapOffice.REFUSED);
    }

    private void loggedOutOfRange() {
        checks.sentence("REFUSED if there is none.");
        TapOffice x = Scenes.withFullLog(0);
        for (int bad : Arguments.outside(0, 3)) {
            checks.due("logged(" + bad + ", 0, 0)", x.logged(bad, 0, 0), TapOffice.REFUSED);
            checks.due("logged(0, 0, " + bad + ")", x.logged(0, 0, bad), TapOffice.REFUSED);
            checks.due("logged(0, 7, " + bad + ")", x.logged(0, 7, bad), TapOffice.REFUSED);
        }
        for (int bad : Arguments.outside(0, 7)) {
            checks.due("logged(0, " + bad + ", 0)", x.logged(0, bad, 0), TapOffice.REFUSED);
            checks.due("logged(0, " + bad + ", 3)", x.logged(0, bad, 3), TapOffice.REFUSED);
        }
        for (int other = 1; other < 4; other++) {
            checks.due("logged(" + other + ", 0, 0)", x.logged(other, 0, 0), TapOffice.REFUSED);
        }
    }

    private void countsAre(TapOffice x, String when, int... want) {
        for (int what = 0; what < 4; what++) {
            checks.due(when + ": count(" + what + ")", x.count(what), want[what]);
        }
    }

    private void countOfNothing() {
        checks.sentence("The time (0), entries in all LOGS (1), taps TORN (2), cards in the office's DENIED set (3)");
        countsAre(new TapOffice(), "at first", 0, 0, 0, 0);
    }

    private void countOfEntriesAtItsGreatest() {
        checks.sentence("entries in all LOGS (1)");
        TapOffice x = Scenes.exits();
        int entries = 0;
        for (int validator = 0; validator < 4; validator++) {
            for (int i = 0; i < 10; i++) {
                x.tap(0, validator, 0);
                entries += i < 8 ? 1 : 0;
                checks.due("count(1)", x.count(1), entries);
            }
        }
        countsAre(x, "four full logs", 0, 32, 0, 0);
        x.upload(0, false);
        countsAre(x, "three full logs", 0, 24, 0, 0);
        x.upload(3, true);
        countsAre(x, "a lost upload", 0, 24, 0, 0);
    }

    private void countOfTornTaps() {
        checks.sentence("taps TORN (2)");
        TapOffice x = Scenes.exits();
        for (int tear = 1; tear <= 8; tear++) {
            x.tap(0, 0, tear);
            checks.due("a tear of " + tear, x.count(2), tear);
        }
        x.tap(0, 0, 0);
        x.tap(0, 0, 9);
        x.tap(0, 0, -1);
        checks.due("no tear, or none that is one", x.count(2), 8);
        x.place(1, 0, false);
        checks.due("LOW", x.tap(0, 1, 8), TapOffice.LOW);
        checks.due("a tear at a LOW tap", x.count(2), 8);
        x.deny(0, true);
        x.upload(2, false);
        checks.due("DENIED", x.tap(0, 2, 8), TapOffice.DENIED);
        checks.due("a tear at a DENIED tap", x.count(2), 8);
        for (int i = 0; i < 8; i++) {
            x.tap(0, 3, 0);
        }
        checks.due("FULL", x.tap(0, 3, 8), TapOffice.FULL);
        checks.due("a tear at a FULL log", x.count(2), 8);
    }

    private void countOfDeniedCards() {
        checks.sentence("cards in the office's DENIED set (3)");
        TapOffice x = new TapOffice();
        for (int card = 0; card < 4; card++) {
            x.deny(card, true);
            checks.due("cards in the set", x.count(3), card + 1);
        }
        x.upload(0, false);
        checks.due("all four stay", x.count(3), 4);
        for (int card = 0; card < 4; card++) {
            x.deny(card, false);
            checks.due("cards in the set", x.count(3), 3 - card);
        }
        x.tap(0, 1, 0);
        checks.due("the sets of validators do not count", x.count(3), 0);
    }

    private void countOutOfRange() {
        checks.sentence("count: REFUSED for others.");
        TapOffice x = Scenes.withFullLog(0);
        for (int bad : Arguments.outside(0, 3)) {
            checks.due("count(" + bad + ")", x.count(bad), TapOffice.REFUSED);
        }
    }
}
