/** The edges of top ups: promise 7. */
public final class EdgesOfTopUpsTest {
    private final Checks checks = new Checks();

    public static void main(String[] args) {
        EdgesOfTopUpsTest test = new EdgesOfTopUpsTest();
        test.leastAndGreatestAmount();
        test.numbersOutOfRange();
        test.balanceOfNineThousand();
        test.balanceMayBeBelowNothing();
        test.spentAsItCountsToday();
        test.otherWordsStay();
        test.entryAtOnce();
        test.noTear();
        test.noCodeOfATap();
        test.checks.finish();
    }

    private void leastAndGreatestAmount() {
        checks.sentence("The card is topped up by 1 .. 999 at the office .. BALANCE.");
        for (int card : new int[] {0, 3}) {
            for (int amount : new int[] {1, 2, 998, 999}) {
                TapOffice x = new TapOffice();
                checks.due("topUp(" + card + ", " + amount + ")", x.topUp(card, amount), amount);
                checks.due("BALANCE", x.card(card, 0), amount);
                checks.due("again", x.topUp(card, amount), 2 * amount);
            }
        }
    }

    private void numbersOutOfRange() {
        checks.sentence("REFUSED for numbers out of range");
        TapOffice x = new TapOffice();
        x.topUp(2, 7);
        for (int bad : Arguments.outside(1, 999)) {
            checks.due("topUp(2, " + bad + ")", x.topUp(2, bad), TapOffice.REFUSED);
        }
        for (int bad : Arguments.outside(0, 3)) {
            checks.due("topUp(" + bad + ", 1)", x.topUp(bad, 1), TapOffice.REFUSED);
            checks.due("topUp(" + bad + ", 999)", x.topUp(bad, 999), TapOffice.REFUSED);
        }
        checks.due("BALANCE", x.card(2, 0), 7);
        checks.due("COUNTER", x.card(2, 6), 1);
        checks.due("known", x.office(2, 0), 1);
        checks.due("all top ups", x.office(2, 5), 7);
    }

    private static TapOffice filled(int balance) {
        TapOffice x = new TapOffice();
        for (int left = balance; left > 0; left -= 999) {
            x.topUp(1, Math.min(left, 999));
        }
        return x;
    }

    private void balanceOfNineThousand() {
        checks.sentence("REFUSED .. if it would be above 9999.");
        checks.due("9000 and 999", filled(9000).topUp(1, 999), 9999);
        checks.due("9001 and 999", filled(9001).topUp(1, 999), TapOffice.REFUSED);
        checks.due("9001 and 998", filled(9001).topUp(1, 998), 9999);
        checks.due("9998 and 1", filled(9998).topUp(1, 1), 9999);
        checks.due("9998 and 2", filled(9998).topUp(1, 2), TapOffice.REFUSED);
        checks.due("9999 and 1", filled(9999).topUp(1, 1), TapOffice.REFUSED);
        checks.due("9999 and 999", filled(9999).topUp(1, 999), TapOffice.REFUSED);
        TapOffice x = filled(9999);
        x.topUp(1, 1);
        checks.due("BALANCE", x.card(1, 0), 9999);
        checks.due("COUNTER", x.card(1, 6), 11);
        checks.due("all top ups", x.office(1, 5), 9999);
        checks.due("another card", x.topUp(0, 999), 999);
        x.fare(0, 0, 1);
        x.place(0, 0, true);
        x.tap(1, 0, 0);
        checks.due("9998 behind a charge, and 1", x.topUp(1, 1), 9999);
    }

    private void balanceMayBeBelowNothing() {
        checks.sentence("A BALANCE that topUp answers may be below 0 too.");
        for (int balance = -5; balance <= 0; balance++) {
            TapOffice x = new TapOffice();
            x.fare(0, 0, 999);
            x.place(0, 0, true);
            x.tap(0, 0, 0);
            // An answer of -1 to -5 is a BALANCE here, though it looks like a code.
            checks.due("topUp from -999 to " + balance, x.topUp(0, 999 + balance), balance);
            checks.due("BALANCE", x.card(0, 0), balance);
            checks.due("COUNTER", x.card(0, 6), 2);
            checks.due("known", x.office(0, 0), 1);
            checks.due("all top ups", x.office(0, 5), 999 + balance);
        }
    }

    private void spentAsItCountsToday() {
        checks.sentence("CHANGED with BALANCE grown by it (SPENT as it counts today)");
        for (int time : new int[] {0, 1439, 1440, 2880}) {
            TapOffice x = Scenes.exits();
            x.tap(0, 0, 0);
            x.clock(time);
            x.topUp(0, 5);
            checks.due("word of SPENT at " + time, x.word(0, 0, 6), time < 1440 ? 10 : 0);
            checks.due("SPENT at " + time, x.card(0, 7), time < 1440 ? 10 : 0);
            checks.due("stamp at " + time, x.word(0, 0, 7), 2 * 4096 + time / 1440);
            checks.due("the copy before", x.word(0, 1, 6), 10);
        }
    }

    private void otherWordsStay() {
        checks.sentence("CHANGED with BALANCE grown by it");
        TapOffice x = new TapOffice();
        x.fare(1, 2, 40);
        x.place(3, 2, true);
        x.topUp(0, 40);
        x.clock(1435);
        x.tap(0, 1, 0);
        x.clock(10);
        x.tap(0, 3, 0);
        x.clock(30);
        x.tap(0, 2, 0);
        x.clock(1000);
        checks.due("with a journey open", x.topUp(0, 100), 100);
        int[] open = {100, 2, 1475, 1, 40, 1445, 40, 5 * 4096 + 1};
        for (int word = 0; word < 8; word++) {
            checks.due("word " + word, x.word(0, 1, word), open[word]);
        }
        checks.due("the late exit pays", x.tap(0, 3, 0), 40);
        checks.due("with no journey open", x.topUp(0, 1), 61);
        int[] closed = {61, -1, 1475, 1, 0, -1000, 80, 7 * 4096 + 1};
        for (int word = 0; word < 8; word++) {
            checks.due("word " + word, x.word(0, 1, word), closed[word]);
        }
    }

    private void entryAtOnce() {
        checks.sentence("the office has an entry at once.");
        TapOffice x = new TapOffice();
        checks.due("nothing known", x.office(3, 0), 0);
        x.topUp(3, 1);
        checks.due("known", x.office(3, 0), 1);
        checks.due("greatest COUNTER", x.office(3, 1), 1);
        checks.due("all top ups", x.office(3, 5), 1);
        checks.due("in no log", x.count(1), 0);
        checks.due("another card", x.office(0, 0) + x.office(1, 0) + x.office(2, 0), 0);
        for (int validator = 0; validator < 4; validator++) {
            checks.due("income(" + validator + ")", x.income(validator), 0);
        }
    }

    private void noTear() {
        checks.sentence("no tear");
        TapOffice x = new TapOffice();
        x.tap(0, 0, 7);
        checks.due("a top up behind a torn tap", x.topUp(0, 3), 3);
        checks.due("its stamp", x.word(0, 1, 7), 4096);
        checks.due("torn taps", x.count(2), 1);
    }

    private void noCodeOfATap() {
        checks.sentence("The card is topped up .. at the office");
        TapOffice x = Scenes.withFullLog(0);
        x.deny(0, true);
        x.upload(1, false);
        x.set(4, 999);
        checks.due("with full logs, a denied card and little in it", x.topUp(0, 1), -19);
    }
}
