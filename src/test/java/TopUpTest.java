import java.util.List;

/** Promise 7: topUp. */
public final class TopUpTest {
    public static void main(String[] args) {
        Checks checks = new Checks();
        recordAndEntry(checks);
        otherWordsStay(checks);
        spentIsTodays(checks);
        limits(checks);
        belowNothing(checks);
        deniedAndLowCardsToo(checks);
        wrongInputs(checks);
        checks.finish();
    }

    private static void recordAndEntry(Checks checks) {
        TapOffice x = new TapOffice();
        checks.due("topUp(2, 1)", x.topUp(2, 1), 1);
        checks.due("written to copy 1", x.word(2, 1, 0), 1);
        checks.due("not to copy 0", x.word(2, 0, 0), 0);
        checks.due("topUp(2, 999)", x.topUp(2, 999), 1000);
        checks.due("written to copy 0", x.word(2, 0, 0), 1000);
        checks.due("copy 1 stays", x.word(2, 1, 0), 1);
        checks.due("counter", x.card(2, 6), 2);
        checks.due("known at once", x.office(2, 0), 2);
        checks.due("greatest at once", x.office(2, 1), 2);
        checks.due("none missing", x.office(2, 2), 0);
        checks.due("none lost", x.office(2, 3), 0);
        checks.due("no charges", x.office(2, 4), 0);
        checks.due("all top ups", x.office(2, 5), 1000);
        checks.due("no log has it", x.count(1), 0);
        checks.due("no other card", x.office(1, 0) + x.card(1, 0), 0);
    }

    private static void otherWordsStay(Checks checks) {
        TapOffice x = new TapOffice();
        x.fare(1, 2, 40);
        x.place(3, 2, true);
        x.topUp(0, 40);
        x.clock(5);
        x.tap(0, 1, 0);
        x.clock(10);
        x.tap(0, 3, 0);
        x.clock(10);
        x.tap(0, 2, 0);
        x.clock(100);
        checks.due("topUp(0, 100)", x.topUp(0, 100), 100);
        int[] want = {100, 2, 25, 1, 40, 15, 40, 5 * 4096};
        for (int word = 0; word < 8; word++) {
            checks.due("word " + word + " after a top up", x.word(0, 1, word), want[word]);
        }
    }

    private static void spentIsTodays(Checks checks) {
        TapOffice x = new TapOffice();
        x.fare(0, 0, 30);
        x.place(0, 0, true);
        x.tap(0, 0, 0);
        x.clock(1439);
        x.topUp(0, 10);
        checks.due("SPENT on the same day", x.word(0, 0, 6), 30);
        checks.due("its stamp", x.word(0, 0, 7), 2 * 4096);
        x.clock(1);
        x.topUp(0, 10);
        checks.due("SPENT on the next day", x.word(0, 1, 6), 0);
        checks.due("its stamp", x.word(0, 1, 7), 3 * 4096 + 1);
        checks.due("the older copy stays", x.word(0, 0, 6), 30);
    }

    private static void limits(Checks checks) {
        TapOffice x = new TapOffice();
        for (int i = 1; i <= 10; i++) {
            checks.due("topUp " + i, x.topUp(3, 999), i * 999);
        }
        List<Integer> before = Checks.state(x);
        checks.due("to 10000", x.topUp(3, 10), TapOffice.REFUSED);
        checks.same("a refused top up changes nothing", Checks.state(x), before);
        checks.due("to 9999", x.topUp(3, 9), 9999);
        checks.due("above it", x.topUp(3, 1), TapOffice.REFUSED);
    }

    private static void belowNothing(Checks checks) {
        TapOffice x = new TapOffice();
        x.fare(0, 0, 500);
        x.place(0, 0, true);
        x.tap(0, 0, 0);
        checks.due("from below 0 to below 0", x.topUp(0, 499), -1);
        checks.due("from below 0 to 0", x.topUp(0, 1), 0);
    }

    private static void deniedAndLowCardsToo(Checks checks) {
        TapOffice x = new TapOffice();
        x.deny(0, true);
        x.set(4, 999);
        checks.due("a denied card", x.topUp(0, 5), 5);
    }

    private static void wrongInputs(Checks checks) {
        TapOffice x = new TapOffice();
        x.topUp(1, 50);
        List<Integer> before = Checks.state(x);
        for (int bad : Checks.outside(3)) {
            checks.due("topUp(" + bad + ", 1)", x.topUp(bad, 1), TapOffice.REFUSED);
        }
        for (int bad : Checks.outside(999)) {
            checks.due("topUp(1, " + bad + ")", x.topUp(1, bad), TapOffice.REFUSED);
        }
        checks.due("topUp(1, 0)", x.topUp(1, 0), TapOffice.REFUSED);
        checks.same("refused top ups change nothing", Checks.state(x), before);
    }
}
