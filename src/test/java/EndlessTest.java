/** No call ever fails, far behind the 512th too: a failure here ends the test with an exception. */
public final class EndlessTest {
    private static final int CALLS = 3_000_000;

    public static void main(String[] args) {
        changesWithoutEnd();
        timeWithoutEnd();
        System.out.println("no call failed");
    }

    private static void changesWithoutEnd() {
        TapOffice x = new TapOffice();
        x.fare(0, 0, 999);
        x.place(1, 0, true);
        for (int i = 0; i < CALLS; i++) {
            x.tap(0, i & 1, i % 5 == 0 ? 8 : 0);
            x.upload(i & 1, false);
            x.topUp(0, 999);
            x.card(0, 6);
            if (i % 1000 == 0) {
                readAll(x);
            }
        }
    }

    private static void timeWithoutEnd() {
        TapOffice x = new TapOffice();
        x.fare(0, 0, 999);
        x.set(1, 1440);
        x.set(2, 200);
        x.place(1, 0, true);
        for (int i = 0; i < CALLS; i++) {
            x.clock(3000);
            if (i % 7 == 0) {
                x.tap(i & 3, i >> 2 & 3, 0);
                x.upload(i >> 2 & 3, false);
            }
            if (i % 1000 == 0) {
                readAll(x);
            }
        }
    }

    private static void readAll(TapOffice x) {
        for (int i = -1; i <= 4; i++) {
            for (int what = -1; what <= 8; what++) {
                x.card(i, what);
                x.office(i, what);
                x.word(i, what & 1, what);
                x.logged(i, what, what & 3);
            }
            x.income(i);
            x.count(i);
        }
    }
}
