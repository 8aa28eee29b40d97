/** Promise 10: word. */
public final class WordTest {
    public static void main(String[] args) {
        Checks checks = new Checks();
        TapOffice x = new TapOffice();
        x.fare(1, 2, 40);
        x.place(3, 2, true);
        x.topUp(1, 100);
        x.clock(1450);
        x.tap(1, 1, 0);
        x.clock(10);
        x.tap(1, 3, 0);
        x.clock(10);
        x.tap(1, 2, 0);
        int[] closed = {60, -1, 1450, 1, 40, 1460, 40, 3 * 4096 + 1};
        int[] opened = {60, 2, 1470, 1, 40, 1460, 40, 4 * 4096 + 1};
        for (int word = 0; word < 8; word++) {
            checks.due("word(1, 1, " + word + ")", x.word(1, 1, word), closed[word]);
            checks.due("word(1, 0, " + word + ")", x.word(1, 0, word), opened[word]);
        }
        for (int bad : Checks.outside(3)) {
            checks.due("word(" + bad + ", 0, 0)", x.word(bad, 0, 0), TapOffice.REFUSED);
        }
        for (int bad : Checks.outside(1)) {
            checks.due("word(1, " + bad + ", 0)", x.word(1, bad, 0), TapOffice.REFUSED);
        }
        for (int bad : Checks.outside(7)) {
            checks.due("word(1, 0, " + bad + ")", x.word(1, 0, bad), TapOffice.REFUSED);
        }
        checks.finish();
    }
}
