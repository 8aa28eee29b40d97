/** The edges of fares: section Terms (ZONES, FARE, FULL FARE) and promise 2. */
public final class EdgesOfFaresTest {
    private final Checks checks = new Checks();

    public static void main(String[] args) {
        EdgesOfFaresTest test = new EdgesOfFaresTest();
        test.zonesHaveALeastAndAGreatest();
        test.faresAreNothingAtFirst();
        test.faresAreTheSameBothWays();
        test.fullFareIsTheGreatest();
        test.fullFareOfNothing();
        test.amountsHaveALeastAndAGreatest();
        test.zonesMayBeTheSame();
        test.wrongNumbersAreRefused();
        test.checks.finish();
    }

    /** What a journey costs on an object that has made none. */
    private static int journey(TapOffice x, int from, int to) {
        x.place(0, from, false);
        x.tap(0, 0, 0);
        x.place(0, to, true);
        return x.tap(0, 0, 0);
    }

    private static int fullFare(TapOffice x, int zone) {
        x.place(0, zone, true);
        return x.tap(0, 0, 0);
    }

    private void zonesHaveALeastAndAGreatest() {
        checks.sentence("ZONES 0 .. 5.");
        for (int zone : new int[] {0, 5}) {
            TapOffice x = new TapOffice();
            checks.due("fare to zone " + zone, x.fare(3, zone, 8), 0);
            checks.due("fare from zone " + zone, x.fare(zone, 3, 9), 0);
            checks.due("place in zone " + zone, x.place(1, zone, false), 0);
            checks.due("journey from zone " + zone, journey(x, zone, 3), 9);
        }
        TapOffice x = new TapOffice();
        for (int bad : new int[] {-1, 6}) {
            checks.due("fare to zone " + bad, x.fare(3, bad, 8), TapOffice.REFUSED);
            checks.due("fare from zone " + bad, x.fare(bad, 3, 8), TapOffice.REFUSED);
            checks.due("place in zone " + bad, x.place(1, bad, false), TapOffice.REFUSED);
        }
    }

    private void faresAreNothingAtFirst() {
        checks.sentence("FARE a b is a table, .. all 0 at first");
        for (int pair = 0; pair < 36; pair++) {
            checks.due("fare of pair " + pair, journey(new TapOffice(), pair / 6, pair % 6), 0);
        }
    }

    private void faresAreTheSameBothWays() {
        checks.sentence("FARE a b is a table, the same both ways");
        for (int pair = 0; pair < 36; pair++) {
            int a = pair / 6;
            int b = pair % 6;
            for (int asked = 0; asked < 36; asked++) {
                TapOffice x = new TapOffice();
                x.fare(a, b, 7);
                int from = asked / 6;
                int to = asked % 6;
                boolean hit = from == a && to == b || from == b && to == a;
                checks.due("fare(" + a + ", " + b + ", 7), then from " + from + " to " + to,
                    journey(x, from, to), hit ? 7 : 0);
            }
        }
        TapOffice x = new TapOffice();
        x.fare(0, 5, 7);
        x.fare(5, 0, 8);
        checks.due("the later call holds for both ways", journey(x, 0, 5), 8);
    }

    private void fullFareIsTheGreatest() {
        checks.sentence("FULL FARE a is the greatest FARE a b of all b.");
        for (int a = 0; a < 6; a++) {
            for (int b = 0; b < 6; b++) {
                checks.due("full fare of " + a + ", greatest to " + b, fullFare(greatestTo(a, b), a), 51);
            }
        }
        TapOffice lowered = greatestTo(2, 5);
        lowered.fare(5, 2, 49);
        checks.due("the greatest was lowered", fullFare(lowered, 2), 50);
        TapOffice others = new TapOffice();
        others.fare(0, 1, 999);
        others.fare(4, 5, 999);
        others.fare(2, 3, 1);
        checks.due("fares of other zones do not count", fullFare(others, 2), 1);
    }

    /** All fares of zone a are 50, but the one to b is 51; the other zones have 999 among them. */
    private static TapOffice greatestTo(int a, int b) {
        TapOffice x = new TapOffice();
        for (int from = 0; from < 6; from++) {
            for (int to = 0; to < 6; to++) {
                x.fare(from, to, from != a && to != a ? 999 : 50);
            }
        }
        x.fare(a, b, 51);
        return x;
    }

    private void fullFareOfNothing() {
        checks.sentence("all 0 at first; FULL FARE a is the greatest FARE a b of all b.");
        for (int zone = 0; zone < 6; zone++) {
            checks.due("full fare of " + zone + " at first", fullFare(new TapOffice(), zone), 0);
        }
    }

    private void amountsHaveALeastAndAGreatest() {
        checks.sentence("FARE a b becomes 0 .. 999");
        int[] amounts = {999, 0, 1, 998};
        for (int amount : amounts) {
            TapOffice x = new TapOffice();
            x.fare(1, 4, 500);
            checks.due("fare(1, 4, " + amount + ")", x.fare(1, 4, amount), 0);
            checks.due("then a journey", journey(x, 1, 4), amount);
        }
        for (int bad : Arguments.outside(0, 999)) {
            TapOffice x = new TapOffice();
            x.fare(1, 4, 500);
            checks.due("fare(1, 4, " + bad + ")", x.fare(1, 4, bad), TapOffice.REFUSED);
            checks.due("then a journey", journey(x, 1, 4), 500);
        }
    }

    private void zonesMayBeTheSame() {
        checks.sentence("zones 0 .. 5 (may be the same)");
        for (int zone = 0; zone < 6; zone++) {
            TapOffice x = new TapOffice();
            checks.due("fare(" + zone + ", " + zone + ", 12)", x.fare(zone, zone, 12), 0);
            checks.due("within zone " + zone, journey(x, zone, zone), 12);
        }
    }

    private void wrongNumbersAreRefused() {
        checks.sentence("0, or REFUSED.");
        for (int bad : Arguments.outside(0, 5)) {
            TapOffice x = new TapOffice();
            checks.due("fare(" + bad + ", 5, 7)", x.fare(bad, 5, 7), TapOffice.REFUSED);
            checks.due("fare(5, " + bad + ", 7)", x.fare(5, bad, 7), TapOffice.REFUSED);
            checks.due("fare(" + bad + ", " + bad + ", 7)", x.fare(bad, bad, 7), TapOffice.REFUSED);
            for (int zone = 0; zone < 6; zone++) {
                checks.due("full fare of " + zone + " behind " + bad, fullFare(x, zone), 0);
            }
        }
    }
}
