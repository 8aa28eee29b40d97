/** Promise 9: deny. */
public final class DenyTest {
    public static void main(String[] args) {
        Checks checks = new Checks();
        TapOffice x = new TapOffice();
        for (int card = 0; card < 4; card++) {
            checks.due("deny(" + card + ", true)", x.deny(card, true), 0);
            checks.due("deny(" + card + ", true) again", x.deny(card, true), 0);
            checks.due("count(3)", x.count(3), card + 1);
        }
        for (int bad : Checks.outside(3)) {
            checks.due("deny(" + bad + ", true)", x.deny(bad, true), TapOffice.REFUSED);
            checks.due("deny(" + bad + ", false)", x.deny(bad, false), TapOffice.REFUSED);
        }
        checks.due("count(3)", x.count(3), 4);
        checks.due("deny(2, false)", x.deny(2, false), 0);
        checks.due("deny(2, false) again", x.deny(2, false), 0);
        checks.due("count(3)", x.count(3), 3);
        x.upload(1, false);
        checks.due("card 2 is let in", x.tap(2, 1, 0), 0);
        checks.due("card 1 is not", x.tap(1, 1, 0), TapOffice.DENIED);
        x.place(1, 1, true);
        checks.due("nor at an exit", x.tap(1, 1, 0), TapOffice.DENIED);
        refusedDeniesNothing(checks);
        checks.finish();
    }

    private static void refusedDeniesNothing(Checks checks) {
        TapOffice x = new TapOffice();
        for (int bad : new int[] {-1, 4, 32, 33, -32}) {
            checks.due("deny(" + bad + ", true)", x.deny(bad, true), TapOffice.REFUSED);
        }
        checks.due("count(3)", x.count(3), 0);
    }
}
