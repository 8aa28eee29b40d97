/** The edges of time: section Terms (TIME, DAY, minute of the day) and promise 5. */
public final class EdgesOfTimeTest {
    private final Checks checks = new Checks();

    public static void main(String[] args) {
        EdgesOfTimeTest test = new EdgesOfTimeTest();
        test.timeBeginsAtNothing();
        test.dayGoesOver();
        test.minuteOfTheDayGoesOver();
        test.clockTakesTheLeastAndTheGreatestStep();
        test.clockRefusesOtherSteps();
        test.timeOfTheLastCall();
        test.checks.finish();
    }

    /** A new object, brought to a time of at most 1,500,000 in at most 500 calls. */
    private static TapOffice at(int time) {
        TapOffice x = new TapOffice();
        for (int left = time; left > 0; left -= 3000) {
            x.clock(Math.min(left, 3000));
        }
        return x;
    }

    private void timeBeginsAtNothing() {
        checks.sentence("TIME is a minute t, 0 at first");
        checks.due("count(0)", new TapOffice().count(0), 0);
        checks.due("clock(0)", new TapOffice().clock(0), 0);
        TapOffice x = new TapOffice();
        x.tap(0, 1, 0);
        checks.due("SINCE", x.card(0, 2), 0);
        checks.due("stamp", x.word(0, 1, 7), 4096);
    }

    private void dayGoesOver() {
        checks.sentence("its DAY is t / 1440");
        int[][] days = {{0, 0}, {1, 0}, {1439, 0}, {1440, 1}, {2879, 1}, {2880, 2}, {4319, 2}, {4320, 3},
            {143999, 99}, {144000, 100}, {1439999, 999}, {1440000, 1000}};
        for (int[] day : days) {
            TapOffice tapped = at(day[0]);
            tapped.tap(0, 0, 0);
            checks.due("stamp of a tap at " + day[0], tapped.word(0, 1, 7), 4096 + day[1]);
            TapOffice filled = at(day[0]);
            filled.topUp(0, 1);
            checks.due("stamp of a top up at " + day[0], filled.word(0, 1, 7), 4096 + day[1]);
        }
    }

    private void minuteOfTheDayGoesOver() {
        checks.sentence("its minute of the day t % 1440");
        int[][] firstMinute = {{0, 20}, {1, 10}, {1439, 10}, {1440, 20}, {1441, 10}, {2880, 20}, {1440000, 20}};
        for (int[] due : firstMinute) {
            checks.due("peak 0 to 1 at " + due[0], priceAt(due[0], 0, 1), due[1]);
        }
        int[][] lastMinute = {{0, 10}, {1438, 10}, {1439, 20}, {1440, 10}, {2878, 10}, {2879, 20}, {1439999, 20}};
        for (int[] due : lastMinute) {
            checks.due("peak 1439 to 1440 at " + due[0], priceAt(due[0], 1439, 1440), due[1]);
        }
    }

    private static int priceAt(int time, int from, int to) {
        TapOffice x = at(time);
        x.fare(0, 0, 10);
        x.set(0, from);
        x.set(1, to);
        x.set(2, 100);
        x.place(0, 0, true);
        return x.tap(0, 0, 0);
    }

    private void clockTakesTheLeastAndTheGreatestStep() {
        checks.sentence("Time goes on by 0 .. 3000 minutes: the time.");
        TapOffice x = new TapOffice();
        checks.due("clock(3000)", x.clock(3000), 3000);
        checks.due("clock(0)", x.clock(0), 3000);
        checks.due("clock(1)", x.clock(1), 3001);
        checks.due("clock(2999)", x.clock(2999), 6000);
        checks.due("count(0)", x.count(0), 6000);
        x.tap(0, 0, 0);
        checks.due("SINCE", x.card(0, 2), 6000);
    }

    private void clockRefusesOtherSteps() {
        checks.sentence("REFUSED for others.");
        TapOffice x = at(1439);
        for (int bad : Arguments.outside(0, 3000)) {
            checks.due("clock(" + bad + ")", x.clock(bad), TapOffice.REFUSED);
            checks.due("the time behind clock(" + bad + ")", x.count(0), 1439);
        }
        x.tap(0, 0, 0);
        checks.due("still day 0", x.word(0, 1, 7), 4096);
        checks.due("still minute 1439", x.card(0, 2), 1439);
    }

    private void timeOfTheLastCall() {
        checks.sentence("An object is used for at most 512 calls after it has been made");
        TapOffice x = new TapOffice();
        for (int i = 1; i <= 512; i++) {
            checks.due("clock(3000), call " + i, x.clock(3000), 3000 * i);
        }
        TapOffice late = at(1500000);
        late.place(1, 0, true);
        late.tap(3, 0, 0);
        late.tap(3, 1, 0);
        checks.due("ENDED", late.card(3, 5), 1500000);
        checks.due("stamp", late.word(3, 0, 7), 2 * 4096 + 1041);
    }
}
