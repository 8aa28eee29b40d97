import java.util.ArrayList;
import java.util.Collections;
import java.util.List;

/** Promise 1: a new object is in the state that the terms give. */
public final class NewObjectTest {
    private static final int[] BLANK = {0, -1, 0, 0, 0, -1000, 0, 0};

    public static void main(String[] args) {
        Checks checks = new Checks();
        cardsAreBlank(checks);
        officeAndLogsAreEmpty(checks);
        validatorsAreEntriesInTheirZones(checks);
        faresAreNothing(checks);
        settingsAreTheFirstOnes(checks);
        objectsAreApart(checks);
        checks.finish();
    }

    private static void cardsAreBlank(Checks checks) {
        TapOffice x = new TapOffice();
        for (int card = 0; card < 4; card++) {
            for (int word = 0; word < 8; word++) {
                checks.due("word(" + card + ", 0, " + word + ")", x.word(card, 0, word), BLANK[word]);
                checks.due("word(" + card + ", 1, " + word + ")", x.word(card, 1, word), BLANK[word]);
                checks.due("card(" + card + ", " + word + ")", x.card(card, word), BLANK[word]);
            }
        }
    }

    private static void officeAndLogsAreEmpty(Checks checks) {
        TapOffice x = new TapOffice();
        for (int i = 0; i < 4; i++) {
            checks.due("count(" + i + ")", x.count(i), 0);
            checks.due("income(" + i + ")", x.income(i), 0);
            checks.due("logged(" + i + ", 0, 0)", x.logged(i, 0, 0), -1);
            for (int what = 0; what < 6; what++) {
                checks.due("office(" + i + ", " + what + ")", x.office(i, what), 0);
            }
        }
    }

    private static void validatorsAreEntriesInTheirZones(Checks checks) {
        for (int validator = 0; validator < 4; validator++) {
            TapOffice x = new TapOffice();
            checks.due("first tap", x.tap(0, validator, 0), 0);
            checks.due("zone of validator " + validator, x.card(0, 1), validator);
            checks.due("first zone at validator " + validator, x.card(0, 3), validator);
        }
    }

    private static void faresAreNothing(Checks checks) {
        for (int zone = 0; zone < 6; zone++) {
            TapOffice x = new TapOffice();
            x.place(0, zone, true);
            checks.due("full fare of zone " + zone, x.tap(0, 0, 0), 0);
        }
    }

    private static void settingsAreTheFirstOnes(Checks checks) {
        TapOffice x = new TapOffice();
        x.fare(0, 0, 999);
        x.place(0, 0, true);
        for (int i = 1; i <= 8; i++) {
            checks.due("no peak and no low cap, tap " + i, x.tap(0, 0, 0), 999);
        }
        x.upload(0, false);
        checks.due("the ninth tap", x.tap(0, 0, 0), 999);
        checks.due("the tenth tap", x.tap(0, 0, 0), 999);
        checks.due("the cap is 9999", x.tap(0, 0, 0), 9);
        checks.due("the cap is reached", x.tap(0, 0, 0), 0);
        checks.due("LEAST is 0", x.tap(1, 1, 0), 0);
        TapOffice peak = new TapOffice();
        peak.set(2, 100);
        peak.fare(0, 0, 10);
        peak.place(0, 0, true);
        checks.due("PEAK TO is 0", peak.tap(0, 0, 0), 10);
        peak.set(1, 1);
        checks.due("PEAK FROM is 0", peak.tap(0, 0, 0), 20);
        TapOffice percent = new TapOffice();
        percent.set(1, 1440);
        percent.fare(0, 0, 999);
        percent.place(0, 0, true);
        checks.due("PEAK PERCENT is 0", percent.tap(0, 0, 0), 999);
    }

    private static void objectsAreApart(Checks checks) {
        TapOffice used = new TapOffice();
        used.fare(0, 0, 5);
        used.set(4, 1);
        used.place(1, 0, true);
        used.clock(7);
        used.tap(0, 1, 0);
        used.tap(0, 1, 3);
        used.topUp(2, 5);
        used.deny(1, true);
        checks.same("a new object beside a used one", Checks.state(new TapOffice()), blankState());
        TapOffice x = new TapOffice();
        checks.due("its tap", x.tap(0, 1, 0), 0);
        checks.due("its zone", x.card(0, 1), 1);
    }

    private static List<Integer> blankState() {
        List<Integer> blank = new ArrayList<>();
        for (int card = 0; card < 4; card++) {
            for (int word : BLANK) {
                blank.add(word);
                blank.add(word);
            }
            blank.addAll(Collections.nCopies(6, 0));
        }
        for (int validator = 0; validator < 4; validator++) {
            blank.addAll(Collections.nCopies(8, -1));
            blank.add(0);
        }
        blank.addAll(Collections.nCopies(4, 0));
        return blank;
    }
}
