/** Promise 6: the tears of a tap, and the two copies of a card. */
public final class TearTest {
    private static final int[] OLD = {0, -1, 0, 0, 0, -1000, 0, 0};
    private static final int[] FRESH = {500, 3, 50, 3, 0, -1000, 0, 2 * 4096};

    public static void main(String[] args) {
        Checks checks = new Checks();
        for (int tear = 1; tear <= 8; tear++) {
            tearBehind(tear, checks);
        }
        tornThenWhole(checks);
        copiesTakeTurns(checks);
        tornExitOfFirstRecord(checks);
        tornChargeIsTaken(checks);
        recordGoesByCounterNotByDay(checks);
        checks.finish();
    }

    private static void tearBehind(int tear, Checks checks) {
        TapOffice x = new TapOffice();
        x.topUp(1, 500);
        x.clock(50);
        checks.due("tear " + tear, x.tap(1, 3, tear), TapOffice.TORN);
        for (int word = 0; word < 8; word++) {
            int want = word < tear ? FRESH[word] : OLD[word];
            checks.due("tear " + tear + ", word " + word, x.word(1, 0, word), want);
        }
        checks.due("the record", x.card(1, 6), tear == 8 ? 2 : 1);
        checks.due("its zone", x.card(1, 1), tear == 8 ? 3 : -1);
        checks.due("no entry", x.count(1), 0);
        checks.due("no entry to read", x.logged(3, 0, 0), TapOffice.REFUSED);
        checks.due("torn taps", x.count(2), 1);
        checks.due("nothing to upload", x.upload(3, false), 0);
    }

    private static void tornThenWhole(Checks checks) {
        TapOffice x = new TapOffice();
        x.fare(0, 0, 40);
        x.place(0, 0, true);
        x.tap(0, 0, 7);
        checks.due("the torn copy has the words", x.word(0, 1, 0), -40);
        checks.due("but not the stamp", x.word(0, 1, 7), 0);
        checks.due("whole after torn", x.tap(0, 0, 0), 40);
        checks.due("BALANCE falls once", x.card(0, 0), -40);
        checks.due("SPENT grows once", x.card(0, 7), 40);
        checks.due("the counter is taken anew", x.logged(0, 0, 1), 1);
        checks.due("copy 0 is untouched", x.word(0, 0, 0), 0);
    }

    private static void copiesTakeTurns(Checks checks) {
        TapOffice x = new TapOffice();
        for (int counter = 1; counter <= 6; counter++) {
            x.tap(0, 1, counter % 2 == 0 ? 0 : 8);
            checks.due("stamp of the new copy", x.word(0, counter % 2, 7), counter * 4096);
            checks.due("stamp of the old copy", x.word(0, 1 - counter % 2, 7), (counter - 1) * 4096);
            checks.due("counter", x.card(0, 6), counter);
        }
    }

    private static void tornExitOfFirstRecord(Checks checks) {
        TapOffice x = new TapOffice();
        x.tap(2, 1, 2);
        checks.due("copies alike: the record is copy 0", x.card(2, 1), -1);
        checks.due("copy 1 is torn", x.word(2, 1, 1), 1);
        x.topUp(2, 9);
        checks.due("a top up goes to copy 1", x.word(2, 1, 0), 9);
        checks.due("and mends its words", x.word(2, 1, 1), -1);
    }

    private static void tornChargeIsTaken(Checks checks) {
        TapOffice x = new TapOffice();
        x.fare(0, 0, 40);
        x.set(3, 60);
        x.place(0, 0, true);
        checks.due("a tear of 8", x.tap(0, 0, 8), TapOffice.TORN);
        checks.due("BALANCE", x.card(0, 0), -40);
        checks.due("SPENT counts for the cap", x.tap(0, 0, 0), 20);
        checks.due("income", x.upload(0, false) + x.income(0), 21);
        checks.due("missing", x.office(0, 2), 1);
        checks.due("lost", x.office(0, 3), 40);
    }

    private static void recordGoesByCounterNotByDay(Checks checks) {
        TapOffice x = new TapOffice();
        x.clock(3000);
        x.tap(0, 0, 7);
        checks.due("no day in a torn stamp", x.word(0, 1, 7), 0);
        x.tap(0, 0, 0);
        checks.due("a stamp with its day", x.word(0, 1, 7), 4096 + 2);
        x.tap(0, 0, 0);
        checks.due("the next stamp", x.word(0, 0, 7), 2 * 4096 + 2);
    }
}
