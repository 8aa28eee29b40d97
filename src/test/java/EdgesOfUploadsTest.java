/** The edges of what goes between validators and office: promises 8, 9 and 14. */
public final class EdgesOfUploadsTest {
    private final Checks checks = new Checks();

    public static void main(String[] args) {
        EdgesOfUploadsTest test = new EdgesOfUploadsTest();
        test.uploadOfAnEmptyLog();
        test.uploadOfAFullLog();
        test.uploadEmptiesOneLog();
        test.uploadBringsTheDeniedSet();
        test.lostUploadChangesNothing();
        test.uploadOutOfRange();
        test.denyAtItsEdges();
        test.denyOutOfRange();
        test.incomeOfNothing();
        test.incomeOfTornTaps();
        test.incomeOfMany();
        test.incomeOutOfRange();
        test.checks.finish();
    }

    private void uploadOfAnEmptyLog() {
        checks.sentence("The validator's LOG goes to the office and is empty; ..: how many entries it had.");
        TapOffice x = Scenes.exits();
        for (int validator = 0; validator < 4; validator++) {
            checks.due("upload(" + validator + ", false)", x.upload(validator, false), 0);
            checks.due("income(" + validator + ")", x.income(validator), 0);
            checks.due("known of card " + validator, x.office(validator, 0), 0);
        }
        x.tap(0, 2, 0);
        checks.due("one entry", x.upload(2, false), 1);
        checks.due("none again", x.upload(2, false), 0);
        checks.due("income(2)", x.income(2), 10);
    }

    private void uploadOfAFullLog() {
        checks.sentence("The validator's LOG goes to the office and is empty; ..: how many entries it had.");
        TapOffice x = Scenes.withFullLog(1);
        checks.due("upload(1, false)", x.upload(1, false), 8);
        checks.due("the log is empty", x.logged(1, 0, 0), TapOffice.REFUSED);
        checks.due("entries in all logs", x.count(1), 0);
        checks.due("income(1)", x.income(1), 80);
        for (int card = 0; card < 4; card++) {
            checks.due("known of card " + card, x.office(card, 0), 2);
            checks.due("charges of card " + card, x.office(card, 4), 20);
        }
        for (int i = 0; i < 8; i++) {
            checks.due("there is room for eight again", x.tap(0, 1, 0), 10);
        }
        checks.due("and no more", x.tap(0, 1, 0), TapOffice.FULL);
        checks.due("the oldest is new", x.logged(1, 0, 1), 3);
        checks.due("upload(1, false) again", x.upload(1, false), 8);
        checks.due("income(1) again", x.income(1), 160);
    }

    private void uploadEmptiesOneLog() {
        checks.sentence("The validator's LOG goes to the office and is empty");
        for (int validator = 0; validator < 4; validator++) {
            TapOffice x = Scenes.exits();
            for (int i = 0; i < 4; i++) {
                x.tap(i, i, 0);
            }
            checks.due("upload(" + validator + ", false)", x.upload(validator, false), 1);
            for (int i = 0; i < 4; i++) {
                checks.due("log of " + i, x.logged(i, 0, 0), i == validator ? TapOffice.REFUSED : i);
                checks.due("income of " + i, x.income(i), i == validator ? 10 : 0);
                checks.due("known of card " + i, x.office(i, 0), i == validator ? 1 : 0);
            }
        }
    }

    private void uploadBringsTheDeniedSet() {
        checks.sentence("it gets the office's DENIED set");
        TapOffice x = new TapOffice();
        x.deny(0, true);
        x.deny(3, true);
        x.upload(2, false);
        int[] due = {TapOffice.DENIED, 0, 0, TapOffice.DENIED};
        for (int card = 0; card < 4; card++) {
            checks.due("card " + card + ", set brought by an empty log", x.tap(card, 2, 0), due[card]);
            checks.due("card " + card + " elsewhere", x.tap(card, 1, 0), 0);
        }
        x.deny(0, false);
        x.deny(3, false);
        checks.due("the set of the last upload holds", x.tap(3, 2, 0), TapOffice.DENIED);
        x.upload(2, false);
        checks.due("an empty set: card 0", x.tap(0, 2, 0), 0);
        checks.due("an empty set: card 3", x.tap(3, 2, 0), 0);
        for (int card = 0; card < 4; card++) {
            x.deny(card, true);
        }
        x.upload(2, false);
        for (int card = 0; card < 4; card++) {
            checks.due("a set of all cards: " + card, x.tap(card, 2, 0), TapOffice.DENIED);
        }
    }

    private void lostUploadChangesNothing() {
        checks.sentence("If lost is true they do not arrive: nothing changes, and the answer is 0.");
        TapOffice empty = Scenes.exits();
        checks.due("a lost upload of nothing", empty.upload(0, true), 0);
        TapOffice x = Scenes.withFullLog(0);
        x.deny(1, true);
        checks.due("upload(0, true)", x.upload(0, true), 0);
        checks.due("entries in all logs", x.count(1), 8);
        checks.due("the oldest", x.logged(0, 0, 1), 1);
        checks.due("the newest", x.logged(0, 7, 1), 2);
        checks.due("income(0)", x.income(0), 0);
        checks.due("known of card 0", x.office(0, 0), 0);
        checks.due("still full", x.tap(0, 0, 0), TapOffice.FULL);
        checks.due("all come later", x.upload(0, false), 8);
        checks.due("income(0)", x.income(0), 80);
        x.deny(2, true);
        x.upload(0, true);
        checks.due("the set of before: card 1", x.tap(1, 0, 0), TapOffice.DENIED);
        checks.due("the set of before: card 2", x.tap(2, 0, 0), 10);
    }

    private void uploadOutOfRange() {
        checks.sentence("REFUSED for numbers out of range.");
        TapOffice x = Scenes.withFullLog(3);
        for (int bad : Arguments.outside(0, 3)) {
            checks.due("upload(" + bad + ", false)", x.upload(bad, false), TapOffice.REFUSED);
            checks.due("upload(" + bad + ", true)", x.upload(bad, true), TapOffice.REFUSED);
        }
        checks.due("entries in all logs", x.count(1), 8);
        checks.due("upload(3, false)", x.upload(3, false), 8);
    }

    private void denyAtItsEdges() {
        checks.sentence("The card is in the office's DENIED set, or not: 0.");
        for (int card : new int[] {0, 3}) {
            TapOffice x = new TapOffice();
            checks.due("out of an empty set", x.deny(card, false), 0);
            checks.due("cards in it", x.count(3), 0);
            checks.due("in", x.deny(card, true), 0);
            checks.due("in again", x.deny(card, true), 0);
            checks.due("cards in it", x.count(3), 1);
            x.upload(0, false);
            for (int other = 0; other < 4; other++) {
                checks.due("card " + other, x.tap(other, 0, 0), other == card ? TapOffice.DENIED : 0);
            }
            checks.due("out", x.deny(card, false), 0);
            checks.due("out again", x.deny(card, false), 0);
            checks.due("cards in it", x.count(3), 0);
        }
    }

    private void denyOutOfRange() {
        checks.sentence("deny: REFUSED for numbers out of range.");
        TapOffice x = new TapOffice();
        x.deny(2, true);
        for (int bad : Arguments.outside(0, 3)) {
            checks.due("deny(" + bad + ", true)", x.deny(bad, true), TapOffice.REFUSED);
            checks.due("deny(" + bad + ", false)", x.deny(bad, false), TapOffice.REFUSED);
        }
        // A shift by one of these would meet the bit of a card.
        for (int bad : new int[] {32, 34, 35, -30, -29, 64, 66}) {
            checks.due("deny(" + bad + ", true)", x.deny(bad, true), TapOffice.REFUSED);
            checks.due("deny(" + bad + ", false)", x.deny(bad, false), TapOffice.REFUSED);
        }
        checks.due("cards in the set", x.count(3), 1);
        x.upload(0, false);
        for (int card = 0; card < 4; card++) {
            checks.due("card " + card, x.tap(card, 0, 0), card == 2 ? TapOffice.DENIED : 0);
        }
    }

    private void incomeOfNothing() {
        checks.sentence("CHARGES that came to the office from a validator");
        TapOffice x = Scenes.withFullLog(0);
        x.topUp(0, 500);
        for (int validator = 0; validator < 4; validator++) {
            checks.due("nothing came from " + validator, x.income(validator), 0);
        }
        x.upload(0, true);
        checks.due("nothing arrived", x.income(0), 0);
        TapOffice free = new TapOffice();
        free.tap(0, 0, 0);
        checks.due("one entry", free.upload(0, false), 1);
        checks.due("with a charge of 0", free.income(0), 0);
    }

    private void incomeOfTornTaps() {
        checks.sentence("CHARGES that came to the office from a validator");
        TapOffice x = Scenes.exits();
        x.tap(0, 1, 8);
        x.tap(0, 1, 7);
        x.upload(1, false);
        checks.due("torn taps bring nothing", x.income(1), 0);
        x.tap(0, 1, 0);
        x.upload(1, false);
        checks.due("a whole one does", x.income(1), 10);
    }

    private void incomeOfMany() {
        checks.sentence("CHARGES that came to the office from a validator");
        TapOffice x = new TapOffice();
        x.fare(5, 5, 999);
        x.set(1, 1440);
        x.set(2, 200);
        x.place(3, 5, true);
        for (int day = 1; day <= 50; day++) {
            for (int i = 0; i < 8; i++) {
                x.tap(i % 4, 3, 0);
            }
            x.upload(3, false);
            x.clock(1440);
        }
        checks.due("400 charges of 2997", x.income(3), 1198800);
        checks.due("100 of them from card 3", x.office(3, 4), 299700);
        checks.due("BALANCE of card 3", x.card(3, 0), -299700);
        checks.due("nothing from validator 2", x.income(2), 0);
    }

    private void incomeOutOfRange() {
        checks.sentence("income: REFUSED for others.");
        TapOffice x = Scenes.withFullLog(0);
        x.upload(0, false);
        for (int bad : Arguments.outside(0, 3)) {
            checks.due("income(" + bad + ")", x.income(bad), TapOffice.REFUSED);
        }
        checks.due("income(0)", x.income(0), 80);
        checks.due("income(3)", x.income(3), 0);
    }
}
