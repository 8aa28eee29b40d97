/** Objects in states that several tests begin with. */
final class Scenes {
    private Scenes() { }

    /** All four validators are exits in zone 0 with a full fare of 10. */
    static TapOffice exits() {
        TapOffice x = new TapOffice();
        x.fare(0, 0, 10);
        for (int validator = 0; validator < 4; validator++) {
            x.place(validator, 0, true);
        }
        return x;
    }

    /** The same, with eight entries in one log: two taps of every card. */
    static TapOffice withFullLog(int validator) {
        TapOffice x = exits();
        for (int i = 0; i < 8; i++) {
            x.tap(i % 4, validator, 0);
        }
        return x;
    }
}
