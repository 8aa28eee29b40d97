/** Promise 14: income. */
public final class IncomeTest {
    public static void main(String[] args) {
        Checks checks = new Checks();
        TapOffice x = new TapOffice();
        for (int i = 0; i < 4; i++) {
            x.fare(i, i, 10 + i);
            x.place(i, i, true);
            x.tap(0, i, 0);
            x.tap(i, i, 0);
            x.tap(i, i, 8);
            checks.due("nothing came yet from " + i, x.income(i), 0);
        }
        x.topUp(0, 500);
        for (int i = 0; i < 4; i++) {
            x.upload(i, true);
            checks.due("a lost upload from " + i, x.income(i), 0);
            x.upload(i, false);
            checks.due("income(" + i + ")", x.income(i), 20 + 2 * i);
            x.upload(i, false);
            checks.due("income(" + i + ") again", x.income(i), 20 + 2 * i);
        }
        x.tap(2, 1, 0);
        x.upload(1, false);
        checks.due("income(1) grows", x.income(1), 33);
        checks.due("income(0) stays", x.income(0), 20);
        for (int bad : Checks.outside(3)) {
            checks.due("income(" + bad + ")", x.income(bad), TapOffice.REFUSED);
        }
        checks.finish();
    }
}
