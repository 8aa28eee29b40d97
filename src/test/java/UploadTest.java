import java.util.List;

/** Promise 8: upload. */
public final class UploadTest {
    public static void main(String[] args) {
        Checks checks = new Checks();
        logGoesToTheOffice(checks);
        lostChangesNothing(checks);
        deniedSetComesBack(checks);
        fullLogIsFreed(checks);
        wrongInputs(checks);
        checks.finish();
    }

    private static TapOffice withTwoEntries() {
        TapOffice x = new TapOffice();
        x.fare(1, 1, 30);
        x.fare(0, 0, 20);
        x.place(1, 1, true);
        x.tap(0, 1, 0);
        x.tap(2, 1, 0);
        x.tap(3, 3, 0);
        return x;
    }

    private static void logGoesToTheOffice(Checks checks) {
        TapOffice x = withTwoEntries();
        checks.due("upload(1, false)", x.upload(1, false), 2);
        checks.due("its log is empty", x.logged(1, 0, 0), TapOffice.REFUSED);
        checks.due("the other log is not", x.count(1), 1);
        checks.due("known of card 0", x.office(0, 0), 1);
        checks.due("known of card 2", x.office(2, 0), 1);
        checks.due("not known of card 3", x.office(3, 0), 0);
        checks.due("charges of card 2", x.office(2, 4), 30);
        checks.due("income", x.income(1), 60);
        checks.due("an empty log", x.upload(1, false), 0);
        checks.due("entries come once", x.income(1) + x.office(0, 0), 61);
        x.tap(2, 1, 0);
        checks.due("a new entry is the first", x.logged(1, 0, 1), 2);
        checks.due("one entry", x.upload(1, false), 1);
    }

    private static void lostChangesNothing(Checks checks) {
        TapOffice x = withTwoEntries();
        x.deny(3, true);
        List<Integer> before = Checks.state(x);
        checks.due("upload(1, true)", x.upload(1, true), 0);
        checks.same("a lost upload changes nothing", Checks.state(x), before);
        checks.due("nor the denied set", x.tap(3, 1, 0), 0);
        checks.due("the entries are still there", x.upload(1, false), 3);
    }

    private static void deniedSetComesBack(Checks checks) {
        TapOffice x = new TapOffice();
        x.deny(0, true);
        x.deny(3, true);
        checks.due("not known yet", x.tap(0, 0, 0), 0);
        x.upload(0, false);
        for (int card = 0; card < 4; card++) {
            boolean denied = card == 0 || card == 3;
            checks.due("card " + card, x.tap(card, 0, 0), denied ? TapOffice.DENIED : 0);
            checks.due("card " + card + " elsewhere", x.tap(card, 1, 0), 0);
        }
        x.deny(0, false);
        x.deny(1, true);
        checks.due("still the old set", x.tap(0, 0, 0), TapOffice.DENIED);
        checks.due("still not in it", x.tap(1, 0, 0), 0);
        x.upload(0, true);
        checks.due("lost: still the old set", x.tap(0, 0, 0), TapOffice.DENIED);
        x.upload(0, false);
        checks.due("the new set", x.tap(0, 0, 0), 0);
        checks.due("has card 1", x.tap(1, 0, 0), TapOffice.DENIED);
        checks.due("has card 3 still", x.tap(3, 0, 0), TapOffice.DENIED);
    }

    private static void fullLogIsFreed(Checks checks) {
        TapOffice x = new TapOffice();
        for (int i = 0; i < 8; i++) {
            x.tap(0, 2, 0);
        }
        x.upload(2, true);
        checks.due("still full", x.tap(0, 2, 0), TapOffice.FULL);
        checks.due("eight entries", x.upload(2, false), 8);
        checks.due("free again", x.tap(0, 2, 0), 0);
        checks.due("known", x.office(0, 0), 8);
    }

    private static void wrongInputs(Checks checks) {
        TapOffice x = withTwoEntries();
        List<Integer> before = Checks.state(x);
        for (int bad : Checks.outside(3)) {
            checks.due("upload(" + bad + ", false)", x.upload(bad, false), TapOffice.REFUSED);
            checks.due("upload(" + bad + ", true)", x.upload(bad, true), TapOffice.REFUSED);
        }
        checks.same("refused uploads change nothing", Checks.state(x), before);
    }
}
