import java.util.ArrayList;
import java.util.List;
import java.util.function.Supplier;
import java.util.function.ToIntFunction;

/** "A call that answers a code (REFUSED, FULL, LOW, DENIED) changes nothing", for every call and every code. */
public final class RefusedTest {
    private static final Supplier<TapOffice> BUSY = RefusedTest::busy;
    private static final Supplier<TapOffice> NEW = TapOffice::new;

    private final List<Integer> busyBefore = Observed.of(BUSY);
    private final List<Integer> newBefore = Observed.of(NEW);
    private final Checks checks = new Checks();

    public static void main(String[] args) {
        RefusedTest test = new RefusedTest();
        test.observedSeesEveryChange();
        test.refusedFare();
        test.refusedSet();
        test.refusedPlace();
        test.refusedClock();
        test.refusedTap();
        test.tapWithACode();
        test.refusedTopUp();
        test.refusedUpload();
        test.lostUpload();
        test.refusedDeny();
        test.refusedReads();
        test.checks.finish();
    }

    /** A state in which no part is as at first; validator 0 is full, and card 3 is as Observed wants it. */
    private static TapOffice busy() {
        TapOffice x = new TapOffice();
        for (int a = 0; a < 6; a++) {
            for (int b = a; b < 6; b++) {
                x.fare(a, b, 11 + 6 * a + b);
            }
        }
        x.set(0, 420);
        x.set(1, 540);
        x.set(2, 50);
        x.set(3, 800);
        x.place(0, 4, true);
        x.place(1, 5, false);
        x.place(2, 3, true);
        x.clock(1500);
        x.topUp(0, 999);
        x.topUp(1, 300);
        x.tap(0, 1, 0);
        x.tap(1, 3, 0);
        x.clock(20);
        x.tap(0, 2, 0);
        x.tap(1, 3, 8);
        x.upload(3, false);
        x.deny(2, true);
        x.upload(1, false);
        for (int i = 0; i < 8; i++) {
            x.tap(i % 2, 0, 0);
        }
        x.tap(1, 2, 3);
        x.deny(1, true);
        x.deny(2, false);
        x.clock(5);
        x.tap(0, 3, 0);
        x.set(4, 200);
        return x;
    }

    private static Supplier<TapOffice> after(Supplier<TapOffice> state, ToIntFunction<TapOffice> call) {
        return () -> {
            TapOffice x = state.get();
            call.applyAsInt(x);
            return x;
        };
    }

    /** The call answers this on a new object and on a busy one, and changes neither. */
    private void changesNothing(String name, ToIntFunction<TapOffice> call, int answer) {
        changesNothingIn(NEW, newBefore, name + " of a new object", call, answer);
        changesNothingIn(BUSY, busyBefore, name + " of a busy object", call, answer);
    }

    private void changesNothingIn(
            Supplier<TapOffice> state, List<Integer> before, String name, ToIntFunction<TapOffice> call, int answer) {
        checks.due(name, call.applyAsInt(state.get()), answer);
        checks.same("what is seen behind " + name, Observed.of(after(state, call)), before);
    }

    /** A call that changes anything at all must be seen, else this test would tell nothing. */
    private void observedSeesEveryChange() {
        checks.sentence("(the test itself)");
        List<ToIntFunction<TapOffice>> calls = new ArrayList<>();
        for (int pair = 0; pair < 36; pair++) {
            int a = pair / 6;
            int b = pair % 6;
            calls.add(x -> x.fare(a, b, 999));
        }
        int[] values = {421, 541, 51, 801, 201};
        for (int i = 0; i < 5; i++) {
            int setting = i;
            calls.add(x -> x.set(setting, values[setting]));
            calls.add(x -> x.set(setting, values[setting] - 2));
        }
        for (int i = 0; i < 4; i++) {
            int number = i;
            boolean exit = number == 0 || number == 2;
            calls.add(x -> x.place(number, 1, exit));
            calls.add(x -> x.place(number, number == 0 ? 4 : number == 1 ? 5 : 3, !exit));
            calls.add(x -> x.deny(number, number != 1));
            calls.add(x -> x.upload(number, false));
            calls.add(x -> x.topUp(number, 1));
            calls.add(x -> x.tap(number, 2, 1));
        }
        calls.add(x -> x.clock(1));
        for (int i = 0; i < calls.size(); i++) {
            boolean isSeen = !Observed.of(after(BUSY, calls.get(i))).equals(busyBefore);
            checks.due("change " + i + " is seen", isSeen ? 1 : 0, 1);
        }
    }

    private void refusedFare() {
        checks.sentence("fare: 0, or REFUSED. .. changes nothing");
        for (int good : new int[] {0, 5}) {
            for (int bad : Arguments.outside(0, 5)) {
                changesNothing("fare(" + bad + ", " + good + ", 5)", x -> x.fare(bad, good, 5), TapOffice.REFUSED);
                changesNothing("fare(" + good + ", " + bad + ", 5)", x -> x.fare(good, bad, 5), TapOffice.REFUSED);
            }
            for (int bad : Arguments.outside(0, 999)) {
                changesNothing("fare(" + good + ", 2, " + bad + ")", x -> x.fare(good, 2, bad), TapOffice.REFUSED);
            }
        }
    }

    private void refusedSet() {
        checks.sentence("set: 0, or REFUSED. .. changes nothing");
        int[] most = {1440, 1440, 200, 9999, 999};
        for (int i = 0; i < 5; i++) {
            int setting = i;
            for (int bad : Arguments.outside(0, most[setting])) {
                changesNothing("set(" + setting + ", " + bad + ")", x -> x.set(setting, bad), TapOffice.REFUSED);
            }
        }
        for (int bad : Arguments.outside(0, 4)) {
            changesNothing("set(" + bad + ", 1)", x -> x.set(bad, 1), TapOffice.REFUSED);
        }
    }

    private void refusedPlace() {
        checks.sentence("place: 0, or REFUSED. .. changes nothing");
        for (int i = 0; i < 4; i++) {
            int validator = i;
            for (int bad : Arguments.outside(0, 5)) {
                changesNothing("place(" + validator + ", " + bad + ", true)",
                    x -> x.place(validator, bad, true), TapOffice.REFUSED);
                changesNothing("place(" + validator + ", " + bad + ", false)",
                    x -> x.place(validator, bad, false), TapOffice.REFUSED);
            }
        }
        for (int bad : Arguments.outside(0, 3)) {
            changesNothing("place(" + bad + ", 2, true)", x -> x.place(bad, 2, true), TapOffice.REFUSED);
        }
    }

    private void refusedClock() {
        checks.sentence("clock: REFUSED for others. .. changes nothing");
        for (int bad : Arguments.outside(0, 3000)) {
            changesNothing("clock(" + bad + ")", x -> x.clock(bad), TapOffice.REFUSED);
        }
    }

    private void refusedTap() {
        checks.sentence("numbers out of range REFUSED, first of all. .. changes nothing");
        for (int good : new int[] {0, 3}) {
            for (int bad : Arguments.outside(0, 3)) {
                changesNothing("tap(" + bad + ", " + good + ", 0)", x -> x.tap(bad, good, 0), TapOffice.REFUSED);
                changesNothing("tap(" + good + ", " + bad + ", 8)", x -> x.tap(good, bad, 8), TapOffice.REFUSED);
            }
            for (int bad : Arguments.outside(0, 8)) {
                changesNothing("tap(" + good + ", 3, " + bad + ")", x -> x.tap(good, 3, bad), TapOffice.REFUSED);
            }
        }
    }

    private void tapWithACode() {
        checks.sentence("A call that answers a code (REFUSED, FULL, LOW, DENIED) changes nothing");
        for (int i = 0; i <= 8; i++) {
            int tear = i;
            for (int j = 0; j < 4; j++) {
                int card = j;
                changesNothingIn(BUSY, busyBefore, "tap(" + card + ", 0, " + tear + ")",
                    x -> x.tap(card, 0, tear), TapOffice.FULL);
            }
            changesNothingIn(BUSY, busyBefore, "tap(2, 1, " + tear + ")", x -> x.tap(2, 1, tear), TapOffice.DENIED);
            changesNothingIn(BUSY, busyBefore, "tap(2, 3, " + tear + ")", x -> x.tap(2, 3, tear), TapOffice.LOW);
            changesNothingIn(BUSY, busyBefore, "tap(3, 1, " + tear + ")", x -> x.tap(3, 1, tear), TapOffice.LOW);
        }
    }

    private void refusedTopUp() {
        checks.sentence("topUp: REFUSED for numbers out of range, and if it would be above 9999. .. changes nothing");
        for (int bad : Arguments.outside(0, 3)) {
            changesNothing("topUp(" + bad + ", 1)", x -> x.topUp(bad, 1), TapOffice.REFUSED);
        }
        for (int bad : Arguments.outside(1, 999)) {
            changesNothing("topUp(0, " + bad + ")", x -> x.topUp(0, bad), TapOffice.REFUSED);
            changesNothing("topUp(3, " + bad + ")", x -> x.topUp(3, bad), TapOffice.REFUSED);
        }
        for (int amount : new int[] {1, 999}) {
            changesNothingIn(RefusedTest::filled, Observed.of(RefusedTest::filled), "topUp(2, " + amount + ")",
                x -> x.topUp(2, amount), TapOffice.REFUSED);
        }
    }

    private static TapOffice filled() {
        TapOffice x = busy();
        for (int i = 0; i < 10; i++) {
            x.topUp(2, 999);
        }
        x.topUp(2, 9);
        return x;
    }

    private void refusedUpload() {
        checks.sentence("upload: REFUSED for numbers out of range. .. changes nothing");
        for (int bad : Arguments.outside(0, 3)) {
            changesNothing("upload(" + bad + ", false)", x -> x.upload(bad, false), TapOffice.REFUSED);
            changesNothing("upload(" + bad + ", true)", x -> x.upload(bad, true), TapOffice.REFUSED);
        }
    }

    private void lostUpload() {
        checks.sentence("If lost is true they do not arrive: nothing changes, and the answer is 0.");
        for (int i = 0; i < 4; i++) {
            int validator = i;
            changesNothing("upload(" + validator + ", true)", x -> x.upload(validator, true), 0);
        }
    }

    private void refusedDeny() {
        checks.sentence("deny: REFUSED for numbers out of range. .. changes nothing");
        for (int bad : Arguments.outside(0, 3)) {
            changesNothing("deny(" + bad + ", true)", x -> x.deny(bad, true), TapOffice.REFUSED);
            changesNothing("deny(" + bad + ", false)", x -> x.deny(bad, false), TapOffice.REFUSED);
        }
    }

    private void refusedReads() {
        checks.sentence("word, card, logged, office, income, count: REFUSED .. changes nothing");
        for (int bad : Arguments.outside(0, 8)) {
            changesNothing("word(" + bad + ", 0, 0)", x -> x.word(bad, 0, 0), TapOffice.REFUSED);
            changesNothing("word(0, " + bad + ", 0)", x -> x.word(0, bad, 0), TapOffice.REFUSED);
            changesNothing("word(0, 0, " + bad + ")", x -> x.word(0, 0, bad), TapOffice.REFUSED);
            changesNothing("card(" + bad + ", 0)", x -> x.card(bad, 0), TapOffice.REFUSED);
            changesNothing("card(0, " + bad + ")", x -> x.card(0, bad), TapOffice.REFUSED);
            changesNothing("logged(" + bad + ", 0, 0)", x -> x.logged(bad, 0, 0), TapOffice.REFUSED);
            changesNothing("logged(0, " + bad + ", 0)", x -> x.logged(0, bad, 0), TapOffice.REFUSED);
            changesNothing("logged(0, 0, " + bad + ")", x -> x.logged(0, 0, bad), TapOffice.REFUSED);
            changesNothing("office(" + bad + ", 0)", x -> x.office(bad, 0), TapOffice.REFUSED);
            changesNothing("office(0, " + bad + ")", x -> x.office(0, bad), TapOffice.REFUSED);
            changesNothing("income(" + bad + ")", x -> x.income(bad), TapOffice.REFUSED);
            changesNothing("count(" + bad + ")", x -> x.count(bad), TapOffice.REFUSED);
        }
    }
}
