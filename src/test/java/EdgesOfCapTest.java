/** The edges of the cap: "Capped" in section Terms, for each of the four charges that are capped. */
public final class EdgesOfCapTest {
    private final Checks checks = new Checks();

    public static void main(String[] args) {
        EdgesOfCapTest test = new EdgesOfCapTest();
        for (Kind kind : Kind.values()) {
            test.capBesideTheCharge(kind);
            test.capBesideWhatIsSpent(kind);
            test.capOfTheNewDay(kind);
        }
        test.paidGrowsByTheCappedCharge();
        test.spentGrowsByTheCappedCharge();
        test.capIsOfOneCard();
        test.checks.finish();
    }

    /** The charges that are capped; each of them would be 100. */
    private enum Kind {
        OPEN_ENTRY, EXIT_ALONE, LATE_EXIT, EXIT_IN_TIME;

        /** Opens the journey that the charge is for; there are 181 minutes up to the charge. */
        void open(TapOffice x) {
            x.clock(this == EXIT_IN_TIME ? 31 : 0);
            if (this != EXIT_ALONE) {
                x.tap(0, 0, 0);
            }
            x.clock(this == EXIT_IN_TIME ? 150 : 181);
        }

        int charge(TapOffice x, int tear) {
            return x.tap(0, this == OPEN_ENTRY ? 0 : 1, tear);
        }
    }

    /** Zone 0 with an entry (0), an exit (1) and an exit in zone 5 (2), which costs what is to be spent first. */
    private static TapOffice spent(int first) {
        TapOffice x = new TapOffice();
        x.fare(0, 0, 100);
        x.fare(5, 5, first);
        x.place(1, 0, true);
        x.place(2, 5, true);
        x.topUp(0, 999);
        x.tap(0, 2, 0);
        return x;
    }

    private void capBesideTheCharge(Kind kind) {
        checks.sentence("Capped: at most CAP less SPENT");
        int[][] rows = {{0, 0}, {1, 1}, {99, 99}, {100, 100}, {101, 100}, {9999, 100}};
        for (int[] row : rows) {
            TapOffice x = spent(0);
            kind.open(x);
            x.set(3, row[0]);
            checks.due(kind + " with a cap of " + row[0], kind.charge(x, 0), row[1]);
            checks.due("SPENT", x.card(0, 7), row[1]);
            checks.due("BALANCE", x.card(0, 0), 999 - row[1]);
        }
    }

    private void capBesideWhatIsSpent(Kind kind) {
        checks.sentence("Capped: at most CAP less SPENT, and not below 0.");
        int[][] rows = {{0, 0}, {199, 0}, {200, 0}, {201, 1}, {299, 99}, {300, 100}, {301, 100}};
        for (int[] row : rows) {
            TapOffice x = spent(200);
            kind.open(x);
            x.set(3, row[0]);
            checks.due(kind + " beside 200, with a cap of " + row[0], kind.charge(x, 0), row[1]);
            checks.due("SPENT", x.card(0, 7), 200 + row[1]);
            checks.due("BALANCE", x.card(0, 0), 799 - row[1]);
        }
    }

    private void capOfTheNewDay(Kind kind) {
        checks.sentence("SPENT counts as 0 if the DAY of the STAMP is not that of t. .. (both today's)");
        for (int tear : new int[] {0, 8}) {
            TapOffice x = spent(200);
            x.set(3, 230);
            x.clock(1440 - 181);
            kind.open(x);
            checks.due("the first minute of day 1", x.count(0), 1440);
            checks.due(kind + " on the new day", kind.charge(x, tear), tear == 0 ? 100 : TapOffice.TORN);
            checks.due("SPENT", x.card(0, 7), 100);
            checks.due("BALANCE", x.card(0, 0), 699);
        }
        TapOffice x = spent(200);
        x.set(3, 230);
        x.clock(1439 - 181);
        kind.open(x);
        checks.due("the last minute of day 0", x.count(0), 1439);
        checks.due(kind + " on the same day", kind.charge(x, 0), 30);
        checks.due("SPENT", x.card(0, 7), 230);
    }

    private void paidGrowsByTheCappedCharge() {
        checks.sentence("capped; PAID grows by the CHARGE.");
        TapOffice x = spent(200);
        x.set(3, 230);
        x.tap(0, 0, 0);
        checks.due("an exit", x.tap(0, 1, 0), 30);
        checks.due("PAID", x.card(0, 4), 30);
        x.set(3, 9999);
        x.tap(0, 0, 0);
        checks.due("the rest in a transfer", x.tap(0, 1, 0), 70);
        checks.due("PAID", x.card(0, 4), 100);
    }

    private void spentGrowsByTheCappedCharge() {
        checks.sentence("BALANCE falls by the CHARGE (below 0 too), SPENT grows by it");
        TapOffice x = spent(200);
        x.set(3, 250);
        checks.due("an exit up to the cap", x.tap(0, 1, 0), 50);
        checks.due("an exit at the cap", x.tap(0, 1, 0), 0);
        x.set(3, 251);
        checks.due("an exit at one more", x.tap(0, 1, 0), 1);
        x.set(3, 10);
        checks.due("an exit at a lower cap", x.tap(0, 1, 0), 0);
        checks.due("SPENT", x.card(0, 7), 251);
        checks.due("BALANCE", x.card(0, 0), 999 - 251);
        checks.due("CHARGE in the log", x.logged(1, 0, 2), 50);
    }

    private void capIsOfOneCard() {
        checks.sentence("at most CAP less SPENT");
        TapOffice x = spent(200);
        x.set(3, 200);
        checks.due("a card at the cap", x.tap(0, 1, 0), 0);
        checks.due("another card", x.tap(3, 1, 0), 100);
    }
}
