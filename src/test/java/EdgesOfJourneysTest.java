/** The edges of journeys: what an ENTRY and an EXIT charge and write, in section Terms, and promise 6. */
public final class EdgesOfJourneysTest {
    private final Checks checks = new Checks();

    public static void main(String[] args) {
        EdgesOfJourneysTest test = new EdgesOfJourneysTest();
        test.entryWithoutOpenJourney();
        test.entryOverOpenJourney();
        test.entryOverOpenJourneyEndsTheChain();
        test.fullFareOfATransfer();
        test.transferOfThirtyMinutes();
        test.transferFromTheFirstMinute();
        test.transferOverMidnight();
        test.noTransferAtFirst();
        test.noTransferBehindTheFirstTwoCases();
        test.exitWithoutJourney();
        test.journeyOfHundredAndEightyMinutes();
        test.journeyOverMidnight();
        test.lateExitHasThePriceOfSince();
        test.restAboveWhatIsPaid();
        test.restHasThePriceOfSince();
        test.chargesGoBelowNothing();
        test.checks.finish();
    }

    private void cardIs(TapOffice x, String when, int... want) {
        for (int what = 0; what < 8; what++) {
            checks.due(when + ": card(0, " + what + ")", x.card(0, what), want[what]);
        }
    }

    /** An entry in zone 0, an exit in zone 1, and an entry in zone 1. */
    private static TapOffice line() {
        TapOffice x = new TapOffice();
        x.fare(0, 1, 60);
        x.fare(0, 2, 100);
        x.fare(1, 2, 70);
        x.place(1, 1, true);
        x.place(2, 1, false);
        x.topUp(0, 999);
        return x;
    }

    private void entryWithoutOpenJourney() {
        checks.sentence("The CHARGE is 0, or if ZONE is not -1 (a journey is open) the PRICE of FULL FARE ZONE at SINCE");
        TapOffice x = line();
        checks.due("no journey is open", x.tap(0, 0, 0), 0);
        cardIs(x, "a journey from zone 0", 999, 0, 0, 0, 0, -1000, 2, 0);
        checks.due("a journey from zone 0 is open", x.tap(0, 0, 0), 100);
        cardIs(x, "a second one", 899, 0, 0, 0, 0, -1000, 3, 100);
    }

    private void entryOverOpenJourney() {
        checks.sentence("if ZONE is not -1 (a journey is open) the PRICE of FULL FARE ZONE at SINCE, capped");
        // The peak begins at 60 and ends at 120: SINCE, the time of the second entry, its charge.
        int[][] rows = {{59, 60, 100}, {60, 61, 150}, {119, 120, 150}, {120, 121, 100}, {59, 2000, 100}, {60, 2000, 150}};
        for (int[] row : rows) {
            TapOffice x = line();
            x.set(0, 60);
            x.set(1, 120);
            x.set(2, 50);
            x.clock(row[0]);
            x.tap(0, 0, 0);
            x.clock(row[1] - row[0]);
            checks.due("opened at " + row[0] + ", again at " + row[1], x.tap(0, 2, 0), row[2]);
            cardIs(x, "behind it", 999 - row[2], 1, row[1], 1, 0, -1000, 3, row[2]);
        }
    }

    private void entryOverOpenJourneyEndsTheChain() {
        checks.sentence("then the chain is over: PAID and FIRST count as below for a new one.");
        TapOffice x = line();
        x.tap(0, 0, 0);
        x.tap(0, 1, 0);
        x.tap(0, 0, 0);
        cardIs(x, "a transfer", 939, 0, 0, 0, 60, 0, 4, 60);
        checks.due("an entry at once, within 30 minutes of ENDED", x.tap(0, 2, 0), 100);
        cardIs(x, "a new chain", 839, 1, 0, 1, 0, 0, 5, 160);
    }

    /** The two full fares of an open journey, in a chain that began in another zone than the journey. */
    private void fullFareOfATransfer() {
        checks.sentence("the PRICE of FULL FARE ZONE at SINCE, capped");
        TapOffice x = line();
        x.tap(0, 0, 0);
        x.tap(0, 1, 0);
        x.tap(0, 2, 0);
        cardIs(x, "a transfer in zone 1", 939, 1, 0, 0, 60, 0, 4, 60);
        checks.due("an entry over it", x.tap(0, 0, 0), 70);
        TapOffice late = line();
        late.tap(0, 0, 0);
        late.tap(0, 1, 0);
        late.tap(0, 2, 0);
        late.clock(181);
        checks.due("a late exit", late.tap(0, 1, 0), 70);
        cardIs(late, "behind it", 869, -1, 0, 0, 0, -1000, 5, 130);
    }

    private void transferOfThirtyMinutes() {
        checks.sentence("If no journey was open and t is at most ENDED + 30: FIRST and PAID stay; else FIRST = the validator's zone, PAID = 0.");
        for (int wait : new int[] {0, 1, 29, 30, 31, 32, 1440}) {
            TapOffice x = line();
            x.clock(7);
            x.tap(0, 0, 0);
            x.clock(3);
            checks.due("the first journey", x.tap(0, 1, 0), 60);
            x.clock(wait);
            boolean stays = wait <= 30;
            checks.due("an entry after " + wait, x.tap(0, 2, 0), 0);
            cardIs(x, "after " + wait, 939, 1, 10 + wait, stays ? 0 : 1, stays ? 60 : 0, 10, 4, wait == 1440 ? 0 : 60);
            x.place(1, 2, true);
            checks.due("the next journey after " + wait, x.tap(0, 1, 0), stays ? 40 : 70);
        }
    }

    private void transferFromTheFirstMinute() {
        checks.sentence("t is at most ENDED + 30");
        for (int wait : new int[] {0, 30, 31}) {
            TapOffice x = line();
            x.tap(0, 0, 0);
            x.tap(0, 1, 0);
            checks.due("ENDED is 0", x.card(0, 5), 0);
            x.clock(wait);
            x.tap(0, 2, 0);
            checks.due("FIRST after " + wait, x.card(0, 3), wait <= 30 ? 0 : 1);
            checks.due("PAID after " + wait, x.card(0, 4), wait <= 30 ? 60 : 0);
        }
    }

    private void transferOverMidnight() {
        checks.sentence("t is at most ENDED + 30: FIRST and PAID stay");
        for (int wait : new int[] {30, 31}) {
            TapOffice x = line();
            x.clock(1420);
            x.tap(0, 0, 0);
            x.clock(10);
            x.tap(0, 1, 0);
            x.clock(wait);
            x.tap(0, 2, 0);
            cardIs(x, "after " + wait, 939, 1, 1430 + wait, wait == 30 ? 0 : 1, wait == 30 ? 60 : 0, 1430, 4, 0);
        }
    }

    private void noTransferAtFirst() {
        checks.sentence("Both copies are 0, -1, 0, 0, 0, -1000, 0, 0 at first. .. t is at most ENDED + 30");
        TapOffice x = new TapOffice();
        x.tap(0, 3, 0);
        cardIs(x, "the first entry", 0, 3, 0, 3, 0, -1000, 1, 0);
        TapOffice later = new TapOffice();
        later.topUp(0, 5);
        later.clock(30);
        later.tap(0, 3, 0);
        cardIs(later, "the first entry, later", 5, 3, 30, 3, 0, -1000, 2, 0);
    }

    private void noTransferBehindTheFirstTwoCases() {
        checks.sentence("Then ZONE = -1 and ENDED = t, but ENDED = -1000 in the first two cases.");
        TapOffice x = line();
        x.tap(0, 0, 0);
        x.tap(0, 1, 0);
        checks.due("ENDED = t", x.card(0, 5), 0);
        checks.due("an exit without a journey", x.tap(0, 1, 0), 70);
        cardIs(x, "behind it", 869, -1, 0, 0, 0, -1000, 4, 130);
        x.tap(0, 2, 0);
        checks.due("FIRST at once", x.card(0, 3), 1);
        x.clock(181);
        checks.due("a late exit", x.tap(0, 1, 0), 70);
        cardIs(x, "behind it", 799, -1, 0, 1, 0, -1000, 6, 200);
        x.tap(0, 0, 0);
        checks.due("FIRST at once", x.card(0, 3), 0);
    }

    private void exitWithoutJourney() {
        checks.sentence("no journey is open: the CHARGE is the PRICE of FULL FARE z at t, capped; PAID = 0.");
        int[][] rows = {{59, 70}, {60, 105}, {119, 105}, {120, 70}};
        for (int[] row : rows) {
            TapOffice x = line();
            x.set(0, 60);
            x.set(1, 120);
            x.set(2, 50);
            x.clock(row[0] - 10);
            x.tap(0, 0, 0);
            x.tap(0, 1, 0);
            int spent = x.card(0, 7);
            checks.due("PAID", x.card(0, 4), spent);
            x.clock(10);
            checks.due("at " + row[0], x.tap(0, 1, 0), row[1]);
            cardIs(x, "behind it", 999 - spent - row[1], -1, row[0] - 10, 0, 0, -1000, 4, spent + row[1]);
        }
    }

    private void journeyOfHundredAndEightyMinutes() {
        checks.sentence("Else, if t is more than SINCE + 180: the PRICE of FULL FARE ZONE at SINCE, capped; PAID = 0.");
        for (int start : new int[] {0, 5, 700}) {
            for (int ride : new int[] {0, 179, 180, 181, 182}) {
                TapOffice x = line();
                x.clock(start);
                x.tap(0, 0, 0);
                x.clock(ride);
                boolean late = ride > 180;
                int charge = late ? 100 : 60;
                checks.due("a ride of " + ride, x.tap(0, 1, 0), charge);
                cardIs(x, "behind it", 999 - charge, -1, start, 0, late ? 0 : 60, late ? -1000 : start + ride, 3, charge);
            }
        }
    }

    private void journeyOverMidnight() {
        checks.sentence("if t is more than SINCE + 180 .. SPENT grows by it (both today's).");
        for (int ride : new int[] {1, 180, 181, 2900}) {
            TapOffice x = line();
            x.place(3, 2, true);
            checks.due("spent on the day before", x.tap(0, 3, 0), 100);
            x.clock(1439);
            x.tap(0, 0, 0);
            checks.due("SPENT on the day before", x.card(0, 7), 100);
            x.clock(ride);
            int charge = ride > 180 ? 100 : 60;
            checks.due("a ride of " + ride, x.tap(0, 1, 0), charge);
            checks.due("SPENT on the new day", x.card(0, 7), charge);
            checks.due("BALANCE", x.card(0, 0), 899 - charge);
            checks.due("ENDED", x.card(0, 5), ride > 180 ? -1000 : 1439 + ride);
        }
    }

    private void lateExitHasThePriceOfSince() {
        checks.sentence("if t is more than SINCE + 180: the PRICE of FULL FARE ZONE at SINCE");
        int[][] rows = {{59, 100}, {60, 150}, {119, 150}, {120, 100}};
        for (int[] row : rows) {
            TapOffice x = line();
            x.set(0, 60);
            x.set(1, 120);
            x.set(2, 50);
            x.clock(row[0]);
            x.tap(0, 0, 0);
            x.clock(1440 + 70);
            checks.due("opened at " + row[0], x.tap(0, 1, 0), row[1]);
        }
    }

    private void restAboveWhatIsPaid() {
        checks.sentence("Else what the PRICE of FARE FIRST z at SINCE is more than PAID (0 if it is not more), capped; PAID grows by the CHARGE.");
        // The fare of the second exit beside the 60 that are paid, and its charge.
        int[][] rows = {{0, 0}, {59, 0}, {60, 0}, {61, 1}, {999, 939}};
        for (int[] row : rows) {
            TapOffice x = line();
            x.tap(0, 0, 0);
            x.tap(0, 1, 0);
            x.tap(0, 2, 0);
            x.fare(0, 4, row[0]);
            x.place(1, 4, true);
            checks.due("a fare of " + row[0] + " with 60 paid", x.tap(0, 1, 0), row[1]);
            checks.due("PAID", x.card(0, 4), 60 + row[1]);
            checks.due("BALANCE", x.card(0, 0), 939 - row[1]);
            checks.due("SPENT", x.card(0, 7), 60 + row[1]);
            checks.due("CHARGE in the log", x.logged(1, 1, 2), row[1]);
        }
    }

    private void restHasThePriceOfSince() {
        checks.sentence("what the PRICE of FARE FIRST z at SINCE is more than PAID");
        int[][] rows = {{59, 60}, {60, 90}, {119, 90}, {120, 60}};
        for (int[] row : rows) {
            TapOffice x = line();
            x.set(0, 60);
            x.set(1, 120);
            x.set(2, 50);
            x.clock(row[0]);
            x.tap(0, 0, 0);
            x.clock(1);
            checks.due("opened at " + row[0], x.tap(0, 1, 0), row[1]);
        }
        TapOffice x = line();
        x.set(0, 10);
        x.set(1, 20);
        x.set(2, 50);
        x.clock(9);
        x.tap(0, 0, 0);
        checks.due("the first journey before the peak", x.tap(0, 1, 0), 60);
        x.clock(1);
        x.tap(0, 2, 0);
        x.clock(10);
        x.place(1, 2, true);
        checks.due("the second opened in it", x.tap(0, 1, 0), 90);
    }

    private void chargesGoBelowNothing() {
        checks.sentence("BALANCE falls by the CHARGE (below 0 too)");
        TapOffice x = new TapOffice();
        x.fare(0, 1, 50);
        x.place(1, 1, true);
        x.topUp(0, 49);
        x.tap(0, 0, 0);
        checks.due("an exit", x.tap(0, 1, 0), 50);
        checks.due("BALANCE", x.card(0, 0), -1);
        checks.due("in the log", x.logged(1, 0, 3), -1);
        x.topUp(0, 51);
        x.tap(0, 0, 0);
        x.tap(0, 1, 0);
        checks.due("the same way again in a transfer costs nothing", x.card(0, 0), 50);
        x.clock(31);
        x.tap(0, 0, 0);
        x.tap(0, 1, 0);
        checks.due("down to 0", x.card(0, 0), 0);
    }
}
