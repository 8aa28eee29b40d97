/** Promise 4: place. */
public final class PlaceTest {
    public static void main(String[] args) {
        Checks checks = new Checks();
        everyValidatorInEveryZone(checks);
        logAndDeniedSetStay(checks);
        wrongInputs(checks);
        checks.finish();
    }

    private static void everyValidatorInEveryZone(Checks checks) {
        for (int validator = 0; validator < 4; validator++) {
            TapOffice x = new TapOffice();
            x.topUp(0, 999);
            for (int zone = 0; zone < 6; zone++) {
                x.fare(zone, zone, 10 + zone);
                x.upload(validator, false);
                checks.due("place as an entry", x.place(validator, zone, false), 0);
                x.tap(0, validator, 0);
                checks.due("entry zone", x.card(0, 1), zone);
                checks.due("place as an exit", x.place(validator, zone, true), 0);
                x.tap(0, validator, 0);
                checks.due("exit closes", x.card(0, 1), -1);
                checks.due("exit charges its zone", x.tap(0, validator, 0), 10 + zone);
                x.clock(31);
            }
            int other = (validator + 1) % 4;
            x.tap(1, other, 0);
            checks.due("the others stay", x.card(1, 1), other);
        }
    }

    private static void logAndDeniedSetStay(Checks checks) {
        TapOffice x = new TapOffice();
        x.deny(1, true);
        x.upload(2, false);
        x.tap(0, 2, 0);
        x.place(2, 5, true);
        checks.due("the log stays", x.logged(2, 0, 1), 1);
        checks.due("the denied set stays", x.tap(1, 2, 0), TapOffice.DENIED);
    }

    private static void wrongInputs(Checks checks) {
        TapOffice x = new TapOffice();
        x.fare(2, 2, 7);
        for (int bad : Checks.outside(3)) {
            checks.due("place(" + bad + ", 0, true)", x.place(bad, 0, true), TapOffice.REFUSED);
        }
        for (int bad : Checks.outside(5)) {
            checks.due("place(2, " + bad + ", true)", x.place(2, bad, true), TapOffice.REFUSED);
            checks.due("place(2, " + bad + ", false)", x.place(2, bad, false), TapOffice.REFUSED);
        }
        checks.due("still an entry", x.tap(0, 2, 0), 0);
        checks.due("still in its zone", x.card(0, 1), 2);
    }
}
