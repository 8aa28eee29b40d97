import java.util.List;

/** Promise 6: tap, its order, its codes and its charges. */
public final class TapTest {
    public static void main(String[] args) {
        Checks checks = new Checks();
        wrongInputsFirst(checks);
        orderOfCodes(checks);
        entryOpens(checks);
        entryOverOpenJourney(checks);
        transferEdges(checks);
        transferBackIsFree(checks);
        exitWithoutJourney(checks);
        journeyTimeEdges(checks);
        priceIsThatOfSince(checks);
        capIsTodays(checks);
        paidGrowsByTheCappedCharge(checks);
        lowIsForEntryAlone(checks);
        checks.finish();
    }

    private static void wrongInputsFirst(Checks checks) {
        TapOffice x = new TapOffice();
        for (int i = 0; i < 8; i++) {
            x.tap(0, 0, 0);
        }
        List<Integer> before = Checks.state(x);
        for (int bad : Checks.outside(3)) {
            checks.due("tap(" + bad + ", 0, 0)", x.tap(bad, 0, 0), TapOffice.REFUSED);
            checks.due("tap(0, " + bad + ", 0)", x.tap(0, bad, 0), TapOffice.REFUSED);
        }
        for (int bad : Checks.outside(8)) {
            checks.due("tap(0, 0, " + bad + ")", x.tap(0, 0, bad), TapOffice.REFUSED);
            checks.due("tap(1, 1, " + bad + ")", x.tap(1, 1, bad), TapOffice.REFUSED);
        }
        checks.same("refused taps change nothing", Checks.state(x), before);
    }

    private static void orderOfCodes(Checks checks) {
        TapOffice x = new TapOffice();
        x.deny(1, true);
        x.upload(0, false);
        x.set(4, 1);
        List<Integer> before = Checks.state(x);
        checks.due("DENIED before LOW", x.tap(1, 0, 0), TapOffice.DENIED);
        checks.due("DENIED with a tear", x.tap(1, 0, 4), TapOffice.DENIED);
        checks.due("LOW", x.tap(0, 0, 0), TapOffice.LOW);
        checks.due("LOW with a tear", x.tap(0, 0, 8), TapOffice.LOW);
        checks.same("codes change nothing", Checks.state(x), before);
        x.set(4, 0);
        for (int i = 0; i < 8; i++) {
            checks.due("tap " + i, x.tap(0, 0, 0), 0);
        }
        x.set(4, 1);
        checks.due("FULL before DENIED", x.tap(1, 0, 0), TapOffice.FULL);
        checks.due("FULL before LOW", x.tap(2, 0, 0), TapOffice.FULL);
        checks.due("FULL with a tear", x.tap(0, 0, 5), TapOffice.FULL);
        checks.due("torn count", x.count(2), 0);
        checks.due("counter", x.card(0, 6), 8);
    }

    private static void entryOpens(Checks checks) {
        TapOffice x = new TapOffice();
        x.clock(40);
        checks.due("entry", x.tap(2, 3, 0), 0);
        int[] want = {0, 3, 40, 3, 0, -1000, 0, 4096};
        for (int word = 0; word < 8; word++) {
            checks.due("word " + word + " after an entry", x.word(2, 1, word), want[word]);
        }
        checks.due("log: card", x.logged(3, 0, 0), 2);
        checks.due("log: counter", x.logged(3, 0, 1), 1);
        checks.due("log: charge", x.logged(3, 0, 2), 0);
        checks.due("log: balance", x.logged(3, 0, 3), 0);
    }

    private static void entryOverOpenJourney(Checks checks) {
        TapOffice x = new TapOffice();
        x.fare(0, 1, 50);
        x.fare(0, 4, 80);
        x.fare(1, 5, 300);
        x.place(3, 1, true);
        x.topUp(0, 100);
        x.tap(0, 0, 0);
        x.clock(1);
        checks.due("a first journey", x.tap(0, 3, 0), 50);
        x.tap(0, 0, 0);
        checks.due("PAID stays in the chain", x.card(0, 4), 50);
        x.clock(1);
        checks.due("entry over an open journey", x.tap(0, 1, 0), 80);
        checks.due("FIRST is new", x.card(0, 3), 1);
        checks.due("PAID is new", x.card(0, 4), 0);
        checks.due("ZONE", x.card(0, 1), 1);
        checks.due("SINCE", x.card(0, 2), 2);
        checks.due("ENDED stays", x.card(0, 5), 1);
        checks.due("BALANCE", x.card(0, 0), -30);
        checks.due("SPENT", x.card(0, 7), 130);
    }

    private static void transferEdges(Checks checks) {
        for (int wait = 29; wait <= 32; wait++) {
            TapOffice x = new TapOffice();
            x.fare(0, 1, 60);
            x.fare(0, 2, 100);
            x.fare(1, 2, 70);
            x.topUp(0, 60);
            x.place(3, 1, true);
            x.tap(0, 0, 0);
            x.clock(15);
            checks.due("first journey", x.tap(0, 3, 0), 60);
            checks.due("ENDED", x.card(0, 5), 15);
            x.clock(wait);
            boolean chained = wait <= 30;
            x.tap(0, 1, 0);
            checks.due("FIRST after " + wait, x.card(0, 3), chained ? 0 : 1);
            checks.due("PAID after " + wait, x.card(0, 4), chained ? 60 : 0);
            x.place(3, 2, true);
            checks.due("charge after " + wait, x.tap(0, 3, 0), chained ? 40 : 70);
            checks.due("PAID in the end", x.card(0, 4), chained ? 100 : 70);
        }
    }

    private static void transferBackIsFree(Checks checks) {
        TapOffice x = new TapOffice();
        x.fare(0, 1, 60);
        x.place(3, 1, true);
        x.topUp(0, 60);
        x.tap(0, 0, 0);
        x.tap(0, 3, 0);
        x.tap(0, 1, 0);
        x.place(3, 0, true);
        checks.due("back to where the chain began", x.tap(0, 3, 0), 0);
        checks.due("PAID does not shrink", x.card(0, 4), 60);
        checks.due("SPENT does not shrink", x.card(0, 7), 60);
    }

    private static void exitWithoutJourney(Checks checks) {
        TapOffice x = new TapOffice();
        x.fare(2, 5, 90);
        x.fare(0, 1, 60);
        x.place(2, 2, true);
        x.place(3, 1, true);
        x.clock(9);
        x.tap(0, 0, 0);
        x.clock(1);
        x.tap(0, 3, 0);
        x.clock(1);
        checks.due("exit without a journey", x.tap(0, 2, 0), 90);
        int[] want = {-150, -1, 9, 0, 0, -1000, 150, 3 * 4096};
        for (int word = 0; word < 8; word++) {
            checks.due("word " + word + " after it", x.word(0, 1, word), want[word]);
        }
        x.topUp(0, 150);
        x.tap(0, 1, 0);
        checks.due("no transfer after it", x.card(0, 3), 1);
    }

    private static void journeyTimeEdges(Checks checks) {
        for (int ride = 179; ride <= 182; ride++) {
            TapOffice x = new TapOffice();
            x.fare(0, 1, 60);
            x.fare(0, 5, 200);
            x.fare(1, 5, 500);
            x.place(3, 1, true);
            x.clock(100);
            x.tap(0, 0, 0);
            x.clock(ride);
            boolean inTime = ride <= 180;
            checks.due("a ride of " + ride, x.tap(0, 3, 0), inTime ? 60 : 200);
            checks.due("PAID", x.card(0, 4), inTime ? 60 : 0);
            checks.due("ENDED", x.card(0, 5), inTime ? 100 + ride : -1000);
            checks.due("ZONE", x.card(0, 1), -1);
            checks.due("SINCE", x.card(0, 2), 100);
        }
    }

    private static void priceIsThatOfSince(Checks checks) {
        TapOffice x = new TapOffice();
        x.fare(0, 1, 100);
        x.set(0, 60);
        x.set(1, 120);
        x.set(2, 20);
        x.place(1, 1, true);
        x.clock(119);
        x.tap(0, 0, 0);
        x.clock(1);
        checks.due("opened in the peak, closed behind it", x.tap(0, 1, 0), 120);
        checks.due("exit without a journey has the price of now", x.tap(0, 1, 0), 100);
        x.clock(1440 + 59 - 120);
        x.tap(1, 0, 0);
        x.clock(1);
        checks.due("opened before the peak, closed in it", x.tap(1, 1, 0), 100);
        checks.due("exit without a journey in the peak", x.tap(1, 1, 0), 120);
        x.tap(2, 0, 0);
        x.clock(200);
        checks.due("a late exit has the price of SINCE", x.tap(2, 1, 0), 120);
        x.clock(2880 + 60 - x.count(0));
        x.tap(3, 0, 0);
        x.clock(100);
        checks.due("an entry over it too", x.tap(3, 2, 0), 120);
    }

    private static void capIsTodays(Checks checks) {
        TapOffice x = new TapOffice();
        x.fare(0, 0, 100);
        x.set(3, 150);
        x.place(1, 0, true);
        x.topUp(0, 300);
        x.tap(0, 1, 0);
        checks.due("capped exit without a journey", x.tap(0, 1, 0), 50);
        x.clock(1430);
        x.tap(0, 0, 0);
        checks.due("capped entry", x.tap(0, 0, 0), 0);
        x.clock(10);
        checks.due("SPENT on the next day", x.card(0, 7), 0);
        checks.due("its word stays", x.word(0, 1, 6), 150);
        checks.due("exit on the next day", x.tap(0, 1, 0), 100);
        checks.due("SPENT begins anew", x.card(0, 7), 100);
        x.tap(0, 0, 0);
        x.clock(181);
        checks.due("capped late exit", x.tap(0, 1, 0), 50);
        checks.due("BALANCE", x.card(0, 0), 0);
        x.clock(1440);
        x.tap(0, 0, 0);
        checks.due("an entry writes SPENT of today", x.card(0, 7) + x.word(0, 1, 6), 0);
        checks.due("its stamp", x.word(0, 1, 7), 9 * 4096 + 2);
    }

    private static void paidGrowsByTheCappedCharge(Checks checks) {
        TapOffice x = new TapOffice();
        x.fare(0, 1, 100);
        x.set(3, 30);
        x.place(1, 1, true);
        x.topUp(0, 30);
        x.tap(0, 0, 0);
        checks.due("capped", x.tap(0, 1, 0), 30);
        checks.due("PAID", x.card(0, 4), 30);
        x.set(3, 9999);
        x.tap(0, 0, 0);
        checks.due("the rest of the fare", x.tap(0, 1, 0), 70);
        checks.due("PAID in all", x.card(0, 4), 100);
    }

    private static void lowIsForEntryAlone(Checks checks) {
        TapOffice x = new TapOffice();
        x.fare(0, 0, 5);
        x.topUp(0, 3);
        x.tap(0, 0, 0);
        x.set(4, 4);
        checks.due("LOW with an open journey", x.tap(0, 0, 0), TapOffice.LOW);
        x.place(1, 0, true);
        checks.due("an exit is never LOW", x.tap(0, 1, 0), 5);
        x.set(4, 0);
        checks.due("below 0 is LOW", x.tap(0, 0, 0), TapOffice.LOW);
    }
}
