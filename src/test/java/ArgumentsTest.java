import java.util.Arrays;

/**
 * Promises 2 to 15: a call is REFUSED for numbers out of range, one of them or several at once, and not
 * for others. The state is one in which no call with numbers in range answers -1.
 */
public final class ArgumentsTest {
    private final Checks checks = new Checks();

    /** A call of the face with its numbers. */
    private interface Call {
        int on(TapOffice x, int[] numbers);
    }

    public static void main(String[] args) {
        ArgumentsTest test = new ArgumentsTest();
        test.changingCalls();
        test.callsWithAFlag();
        test.settings();
        test.readingCalls();
        test.checks.finish();
    }

    private void changingCalls() {
        box("fare", (x, n) -> x.fare(n[0], n[1], n[2]), 0, 5, 0, 5, 0, 999);
        box("clock", (x, n) -> x.clock(n[0]), 0, 3000);
        box("tap", (x, n) -> x.tap(n[0], n[1], n[2]), 0, 3, 0, 3, 0, 8);
        box("topUp", (x, n) -> x.topUp(n[0], n[1]), 0, 3, 1, 999);
    }

    private void callsWithAFlag() {
        for (boolean flag : new boolean[] {false, true}) {
            box("place " + flag, (x, n) -> x.place(n[0], n[1], flag), 0, 3, 0, 5);
            box("upload " + flag, (x, n) -> x.upload(n[0], flag), 0, 3);
            box("deny " + flag, (x, n) -> x.deny(n[0], flag), 0, 3);
        }
    }

    private void settings() {
        int[] most = {1440, 1440, 200, 9999, 999};
        for (int i = 0; i < 5; i++) {
            int setting = i;
            box("set " + setting, (x, n) -> x.set(setting, n[0]), 0, most[setting]);
        }
        box("set to 0", (x, n) -> x.set(n[0], 0), 0, 4);
        box("set to 200", (x, n) -> x.set(n[0], 200), 0, 4);
        // 0 .. -1 has no number: no setting takes these values.
        box("set to -1", (x, n) -> x.set(n[0], -1), 0, -1);
        box("set to 10000", (x, n) -> x.set(n[0], 10000), 0, -1);
    }

    private void readingCalls() {
        box("word", (x, n) -> x.word(n[0], n[1], n[2]), 0, 3, 0, 1, 0, 7);
        box("card", (x, n) -> x.card(n[0], n[1]), 0, 3, 0, 7);
        box("logged", (x, n) -> x.logged(n[0], n[1], n[2]), 0, 3, 0, 1, 0, 3);
        box("office", (x, n) -> x.office(n[0], n[1]), 0, 3, 0, 5);
        box("income", (x, n) -> x.income(n[0]), 0, 3);
        box("count", (x, n) -> x.count(n[0]), 0, 3);
    }

    /** Every card has a journey open in both copies, and every log has two entries. */
    private static TapOffice state() {
        TapOffice x = new TapOffice();
        for (int i = 0; i < 4; i++) {
            x.tap(i, i, 0);
            x.tap(i, i, 0);
        }
        return x;
    }

    /** Tries all ways to take each number from the edges of its range; the ranges are pairs of least and most. */
    private void box(String name, Call call, int... ranges) {
        tryFrom(0, new int[ranges.length / 2], name, call, ranges);
    }

    private void tryFrom(int place, int[] numbers, String name, Call call, int[] ranges) {
        if (place == numbers.length) {
            tryNumbers(numbers, name, call, ranges);
            return;
        }
        for (int number : Arguments.edges(ranges[2 * place], ranges[2 * place + 1])) {
            numbers[place] = number;
            tryFrom(place + 1, numbers, name, call, ranges);
        }
    }

    private void tryNumbers(int[] numbers, String name, Call call, int[] ranges) {
        boolean inside = true;
        for (int i = 0; i < numbers.length; i++) {
            inside &= Arguments.inside(numbers[i], ranges[2 * i], ranges[2 * i + 1]);
        }
        boolean refused = call.on(state(), numbers.clone()) == TapOffice.REFUSED;
        checks.due(name + " " + Arrays.toString(numbers) + " refused", refused ? 1 : 0, inside ? 0 : 1);
    }
}
