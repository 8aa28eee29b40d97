import java.util.ArrayList;
import java.util.List;
import java.util.function.IntPredicate;
import java.util.function.Supplier;

/**
 * All that can be told of an object's state, what no call reads too: its fares, settings, places
 * and denied sets are found out by calls that change it, each time on an object that was made anew.
 * Card 3 must have no journey and a BALANCE of 0, and the way to the state at most 150 calls.
 */
final class Observed {
    private final Supplier<TapOffice> state;
    private final List<Integer> seen = new ArrayList<>();

    private Observed(Supplier<TapOffice> state) {
        this.state = state;
    }

    static List<Integer> of(Supplier<TapOffice> state) {
        Observed observed = new Observed(state);
        observed.seeWhatIsRead();
        observed.seeDeniedSets();
        observed.seePlaces();
        observed.seeFares();
        observed.seeSettings();
        return observed.seen;
    }

    private void seeWhatIsRead() {
        TapOffice x = state.get();
        for (int i = 0; i < 4; i++) {
            for (int word = 0; word < 8; word++) {
                seen.add(x.word(i, 0, word));
                seen.add(x.word(i, 1, word));
                seen.add(x.card(i, word));
                for (int what = 0; what < 4; what++) {
                    seen.add(x.logged(i, word, what));
                }
            }
            for (int what = 0; what < 6; what++) {
                seen.add(x.office(i, what));
            }
            seen.add(x.income(i));
            seen.add(x.count(i));
        }
    }

    private void seeDeniedSets() {
        TapOffice x = state.get();
        for (int pair = 0; pair < 16; pair++) {
            seen.add(x.tap(pair % 4, pair / 4, 1));
        }
        x.upload(0, false);
        for (int card = 0; card < 4; card++) {
            seen.add(x.tap(card, 0, 1));
        }
    }

    /** The state, with validator 0 an exit in zone 0, no peak, no denied card, empty logs, and a new day begun. */
    private TapOffice eased() {
        TapOffice x = state.get();
        for (int i = 0; i < 4; i++) {
            x.deny(i, false);
        }
        for (int i = 0; i < 4; i++) {
            x.upload(i, false);
        }
        x.set(2, 0);
        x.set(3, 9999);
        x.set(4, 0);
        x.place(0, 0, true);
        toMinute(x, 0);
        return x;
    }

    private static void toMinute(TapOffice x, int minute) {
        x.clock(1440 - x.count(0) % 1440 + minute);
    }

    private void seePlaces() {
        for (int validator = 0; validator < 4; validator++) {
            TapOffice x = state.get();
            for (int i = 0; i < 4; i++) {
                x.deny(i, false);
            }
            x.upload(validator, false);
            x.set(2, 0);
            x.set(3, 9999);
            x.set(4, 0);
            for (int pair = 0; pair < 36; pair++) {
                x.fare(pair / 6, pair % 6, pair / 6 == pair % 6 ? 10 + pair / 6 : 0);
            }
            seen.add(x.tap(3, validator, 0));
            seen.add(x.card(3, 1));
        }
    }

    private void seeFares() {
        TapOffice x = eased();
        for (int pair = 0; pair < 36; pair++) {
            x.clock(1440);
            x.upload(0, false);
            x.topUp(3, 999);
            x.place(0, pair / 6, false);
            x.tap(3, 0, 0);
            x.place(0, pair % 6, true);
            seen.add(x.tap(3, 0, 0));
        }
    }

    private void seeSettings() {
        seen.add(least(1440, this::isFromOrLater));
        seen.add(least(1440, this::isToOrLater));
        seen.add(least(999, this::isEnough));
        seen.add(percent());
        seen.add(cap());
    }

    /** The least number of 0 .. most that is one of those, or most + 1; all above it are too. */
    private static int least(int most, IntPredicate isOne) {
        int low = 0;
        int high = most + 1;
        while (low < high) {
            int middle = (low + high) / 2;
            if (isOne.test(middle)) {
                high = middle;
            } else {
                low = middle + 1;
            }
        }
        return low;
    }

    private boolean isFromOrLater(int minute) {
        TapOffice x = eased();
        x.set(1, 1440);
        return minute > 1439 || isPeak(x, minute);
    }

    private boolean isToOrLater(int minute) {
        TapOffice x = eased();
        x.set(0, 0);
        return minute > 1439 || !isPeak(x, minute);
    }

    private static boolean isPeak(TapOffice x, int minute) {
        x.set(2, 100);
        x.fare(0, 0, 999);
        toMinute(x, minute);
        return x.tap(3, 0, 0) > 999;
    }

    private boolean isEnough(int balance) {
        TapOffice x = state.get();
        for (int i = 0; i < 4; i++) {
            x.deny(i, false);
        }
        x.upload(0, false);
        x.place(0, 0, false);
        if (balance > 0) {
            x.topUp(3, balance);
        }
        return x.tap(3, 0, 1) != TapOffice.LOW;
    }

    private int percent() {
        TapOffice x = state.get();
        cheapExit(x, 100);
        x.set(3, 9999);
        toMinute(x, 0);
        return x.tap(3, 0, 0);
    }

    private int cap() {
        TapOffice x = state.get();
        cheapExit(x, 999);
        x.set(2, 200);
        toMinute(x, 0);
        int charges = 0;
        for (int i = 0; i < 4; i++) {
            charges += x.tap(3, 0, 0);
        }
        return charges;
    }

    /** Validator 0 is an exit in zone 0 with this full fare, in a peak of the whole day. */
    private static void cheapExit(TapOffice x, int fullFare) {
        for (int i = 0; i < 4; i++) {
            x.deny(i, false);
        }
        x.upload(0, false);
        x.place(0, 0, true);
        for (int zone = 0; zone < 6; zone++) {
            x.fare(0, zone, fullFare);
        }
        x.set(0, 0);
        x.set(1, 1440);
    }
}
