/** The edges of cards: section Terms (copies, record, SPENT, CHANGE, TEAR) and promises 10 and 11. */
public final class EdgesOfCardsTest {
    private static final int[] BLANK = {0, -1, 0, 0, 0, -1000, 0, 0};
    // The two copies before the exit of beforeAnExit, and what the exit makes of copy 1.
    private static final int[] COPY_BEFORE = {0, 1, 1430, 1, 0, -1000, 0, 4096};
    private static final int[] RECORD_BEFORE = {-20, 2, 1450, 2, 0, -1000, 20, 2 * 4096 + 1};
    private static final int[] COPY_AFTER = {-70, -1, 1450, 2, 50, 1455, 70, 3 * 4096 + 1};

    private final Checks checks = new Checks();

    public static void main(String[] args) {
        EdgesOfCardsTest test = new EdgesOfCardsTest();
        test.thereAreFourCards();
        test.copiesAtFirst();
        test.recordIsCopyNothingIfAlike();
        test.recordIsTheCopyWithTheGreaterCounter();
        test.spentGoesOverWithTheDay();
        test.spentOfManyDaysAgo();
        test.counterIsOneMore();
        test.counterAtItsGreatest();
        test.stampHasTheDayOfNow();
        test.otherCopyIsWritten();
        test.tearOfEveryLength();
        test.noTear();
        test.tearOverATear();
        test.tornCopyIsMendedByTheNextChange();
        test.wordsAtTheirEdges();
        test.wordMayBeMinusOne();
        test.cardAtItsEdges();
        test.checks.finish();
    }

    private void copyIs(TapOffice x, String when, int card, int copy, int... want) {
        for (int word = 0; word < 8; word++) {
            checks.due(when + ": word(" + card + ", " + copy + ", " + word + ")", x.word(card, copy, word), want[word]);
        }
    }

    private void thereAreFourCards() {
        checks.sentence("CARDS 0 .. 3.");
        for (int card = 0; card < 4; card++) {
            TapOffice x = new TapOffice();
            x.topUp(card, 9);
            x.tap(card, 2, 0);
            for (int other = 0; other < 4; other++) {
                checks.due("BALANCE of " + other, x.card(other, 0), other == card ? 9 : 0);
                checks.due("ZONE of " + other, x.card(other, 1), other == card ? 2 : -1);
                checks.due("COUNTER of " + other, x.card(other, 6), other == card ? 2 : 0);
            }
        }
        for (int bad : Arguments.outside(0, 3)) {
            TapOffice x = new TapOffice();
            checks.due("tap(" + bad + ", 0, 0)", x.tap(bad, 0, 0), TapOffice.REFUSED);
            checks.due("topUp(" + bad + ", 5)", x.topUp(bad, 5), TapOffice.REFUSED);
            checks.due("deny(" + bad + ", true)", x.deny(bad, true), TapOffice.REFUSED);
            checks.due("word(" + bad + ", 0, 0)", x.word(bad, 0, 0), TapOffice.REFUSED);
            checks.due("card(" + bad + ", 0)", x.card(bad, 0), TapOffice.REFUSED);
            checks.due("office(" + bad + ", 0)", x.office(bad, 0), TapOffice.REFUSED);
        }
    }

    private void copiesAtFirst() {
        checks.sentence("Both copies are 0, -1, 0, 0, 0, -1000, 0, 0 at first.");
        TapOffice x = new TapOffice();
        for (int card = 0; card < 4; card++) {
            copyIs(x, "at first", card, 0, BLANK);
            copyIs(x, "at first", card, 1, BLANK);
        }
    }

    private void recordIsCopyNothingIfAlike() {
        checks.sentence("The card's record is .. copy 0 if these are alike.");
        for (int tear = 1; tear <= 7; tear++) {
            TapOffice x = new TapOffice();
            x.fare(2, 2, 30);
            x.place(2, 2, true);
            x.clock(10);
            x.tap(0, 2, tear);
            checks.due("copy 1 is torn", x.word(0, 1, 0), -30);
            checks.due("BALANCE of copy 0", x.card(0, 0), 0);
            checks.due("ENDED of copy 0", x.card(0, 5), -1000);
            checks.due("SPENT of copy 0", x.card(0, 7), 0);
            checks.due("COUNTER", x.card(0, 6), 0);
            x.topUp(0, 5);
            copyIs(x, "a change goes to copy 1", 0, 1, 5, -1, 0, 0, 0, -1000, 0, 4096);
            copyIs(x, "and copy 0 stays", 0, 0, BLANK);
        }
    }

    private void recordIsTheCopyWithTheGreaterCounter() {
        checks.sentence("The card's record is the copy with the greater STAMP / 4096");
        TapOffice x = new TapOffice();
        for (int counter = 1; counter <= 20; counter++) {
            x.topUp(1, counter);
            checks.due("BALANCE " + counter, x.card(1, 0), counter * (counter + 1) / 2);
            checks.due("that of its copy", x.word(1, counter % 2, 0), counter * (counter + 1) / 2);
            checks.due("the other copy", x.word(1, 1 - counter % 2, 0), counter * (counter - 1) / 2);
            x.clock(counter % 3 == 0 ? 1440 : 0);
        }
    }

    private void spentGoesOverWithTheDay() {
        checks.sentence("SPENT counts as 0 if the DAY of the STAMP is not that of t.");
        TapOffice x = new TapOffice();
        x.fare(0, 0, 60);
        x.place(0, 0, true);
        x.set(3, 100);
        x.tap(0, 0, 0);
        x.clock(1439);
        checks.due("SPENT in the last minute of the day", x.card(0, 7), 60);
        checks.due("tap in the last minute of the day", x.tap(0, 0, 0), 40);
        x.clock(1);
        checks.due("SPENT in the first minute of the next", x.card(0, 7), 0);
        checks.due("its word", x.word(0, 0, 6), 100);
        checks.due("tap in the first minute of the next", x.tap(0, 0, 0), 60);
        checks.due("SPENT behind it", x.card(0, 7), 60);
        checks.due("its word", x.word(0, 1, 6), 60);
    }

    private void spentOfManyDaysAgo() {
        checks.sentence("SPENT counts as 0 if the DAY of the STAMP is not that of t.");
        TapOffice x = new TapOffice();
        x.fare(0, 0, 60);
        x.place(0, 0, true);
        x.tap(0, 0, 0);
        for (int half = 1; half <= 400; half++) {
            x.clock(2880);
            if (half == 1 || half == 4 || half == 16 || half == 32 || half == 64 || half == 128 || half == 256) {
                checks.due("SPENT on day " + 2 * half, x.card(0, 7), 0);
            }
        }
        checks.due("SPENT on day 800", x.card(0, 7), 0);
        checks.due("its word", x.word(0, 1, 6), 60);
        x.topUp(0, 1);
        checks.due("its word behind a change", x.word(0, 0, 6), 0);
    }

    private void counterIsOneMore() {
        checks.sentence("a new record, with a COUNTER one more");
        TapOffice x = new TapOffice();
        x.topUp(0, 9);
        checks.due("a top up", x.card(0, 6), 1);
        x.tap(0, 0, 0);
        checks.due("a tap", x.card(0, 6), 2);
        x.tap(0, 0, 8);
        checks.due("a tap with a tear of 8", x.card(0, 6), 3);
        x.tap(0, 0, 7);
        checks.due("a tap with a tear of 7", x.card(0, 6), 3);
        x.tap(0, 0, 0);
        checks.due("a tap behind it", x.card(0, 6), 4);
        checks.due("in the log", x.logged(0, 1, 1), 4);
        checks.due("the other cards", x.card(1, 6) + x.card(2, 6) + x.card(3, 6), 0);
    }

    private void counterAtItsGreatest() {
        checks.sentence("7 the STAMP, COUNTER * 4096 + DAY.");
        checks.due("COUNTER of 511 changes", changed(511).card(3, 6), 511);
        checks.due("their stamp", changed(511).word(3, 1, 7), 511 * 4096);
        checks.due("the stamp before it", changed(511).word(3, 0, 7), 510 * 4096);
        checks.due("BALANCE", changed(511).card(3, 0), 511);
        for (int changes : new int[] {127, 128, 255, 256, 257}) {
            checks.due("COUNTER of " + changes + " changes", changed(changes).card(3, 6), changes);
            checks.due("their stamp", changed(changes).word(3, changes % 2, 7), changes * 4096);
        }
    }

    private static TapOffice changed(int changes) {
        TapOffice x = new TapOffice();
        for (int i = 0; i < changes; i++) {
            x.topUp(3, 1);
        }
        return x;
    }

    private void stampHasTheDayOfNow() {
        checks.sentence("a new record, with .. the DAY of t");
        TapOffice x = new TapOffice();
        x.clock(1439);
        x.tap(0, 0, 0);
        checks.due("the last minute of day 0", x.word(0, 1, 7), 4096);
        x.clock(1);
        x.tap(0, 0, 8);
        checks.due("the first minute of day 1", x.word(0, 0, 7), 2 * 4096 + 1);
        x.clock(2880);
        x.topUp(0, 1);
        checks.due("day 3", x.word(0, 1, 7), 3 * 4096 + 3);
        x.clock(1440);
        x.tap(0, 0, 7);
        checks.due("a stamp that was not written", x.word(0, 0, 7), 2 * 4096 + 1);
    }

    private void otherCopyIsWritten() {
        checks.sentence("is written into the copy that is not the card's record");
        TapOffice x = new TapOffice();
        x.topUp(0, 1);
        copyIs(x, "the first change leaves copy 0", 0, 0, BLANK);
        x.topUp(0, 2);
        copyIs(x, "the second leaves copy 1", 0, 1, 1, -1, 0, 0, 0, -1000, 0, 4096);
        copyIs(x, "and writes copy 0", 0, 0, 3, -1, 0, 0, 0, -1000, 0, 2 * 4096);
        x.tap(0, 1, 0);
        copyIs(x, "the third leaves copy 0", 0, 0, 3, -1, 0, 0, 0, -1000, 0, 2 * 4096);
        copyIs(x, "and writes copy 1", 0, 1, 3, 1, 0, 1, 0, -1000, 0, 3 * 4096);
    }

    /** A card whose next exit writes eight words that all differ from those of copy 1. */
    private static TapOffice beforeAnExit() {
        TapOffice x = new TapOffice();
        x.fare(1, 4, 20);
        x.fare(2, 3, 50);
        x.place(3, 3, true);
        x.clock(1430);
        x.tap(0, 1, 0);
        x.clock(20);
        x.tap(0, 2, 0);
        x.clock(5);
        return x;
    }

    private static int[] torn(int words, int[] fresh, int[] old) {
        int[] mixed = old.clone();
        System.arraycopy(fresh, 0, mixed, 0, words);
        return mixed;
    }

    private void tearOfEveryLength() {
        checks.sentence("a TEAR of 1 .. 8 takes the card away behind so many words (with 8 all are written)");
        for (int tear = 1; tear <= 8; tear++) {
            TapOffice x = beforeAnExit();
            copyIs(x, "before", 0, 1, COPY_BEFORE);
            checks.due("tap(0, 3, " + tear + ")", x.tap(0, 3, tear), TapOffice.TORN);
            copyIs(x, "a tear of " + tear, 0, 1, torn(tear, COPY_AFTER, COPY_BEFORE));
            copyIs(x, "the record stays", 0, 0, RECORD_BEFORE);
            int[] record = tear == 8 ? COPY_AFTER : RECORD_BEFORE;
            for (int word = 0; word < 6; word++) {
                checks.due("a tear of " + tear + ": card(0, " + word + ")", x.card(0, word), record[word]);
            }
            checks.due("COUNTER", x.card(0, 6), tear == 8 ? 3 : 2);
            checks.due("SPENT", x.card(0, 7), record[6]);
        }
    }

    private void noTear() {
        checks.sentence("0: it stays.");
        TapOffice x = beforeAnExit();
        checks.due("tap(0, 3, 0)", x.tap(0, 3, 0), 50);
        copyIs(x, "no tear", 0, 1, COPY_AFTER);
        copyIs(x, "the older copy stays", 0, 0, RECORD_BEFORE);
        checks.due("COUNTER", x.card(0, 6), 3);
    }

    private void tearOverATear() {
        checks.sentence("is written into the copy that is not the card's record, word by word from the first");
        TapOffice x = beforeAnExit();
        x.tap(0, 3, 5);
        x.clock(2);
        x.place(3, 5, true);
        x.fare(2, 5, 7);
        x.tap(0, 3, 1);
        copyIs(x, "one word over five", 0, 1, -27, -1, 1450, 2, 50, -1000, 0, 4096);
        x.tap(0, 3, 6);
        copyIs(x, "six words over that", 0, 1, -27, -1, 1450, 2, 7, 1457, 0, 4096);
        copyIs(x, "the record stays", 0, 0, RECORD_BEFORE);
    }

    private void tornCopyIsMendedByTheNextChange() {
        checks.sentence("a new record .. is written into the copy that is not the card's record");
        for (int tear = 1; tear <= 7; tear++) {
            TapOffice x = beforeAnExit();
            x.tap(0, 3, tear);
            checks.due("a top up behind a tear of " + tear, x.topUp(0, 21), 1);
            copyIs(x, "behind it", 0, 1, 1, 2, 1450, 2, 0, -1000, 20, 3 * 4096 + 1);
            copyIs(x, "the record before", 0, 0, RECORD_BEFORE);
        }
    }

    private void wordsAtTheirEdges() {
        checks.sentence("Word 0 .. 7 of copy 0 or 1 of the card; REFUSED for numbers out of range");
        TapOffice x = new TapOffice();
        for (int card = 0; card < 4; card++) {
            x.tap(card, 2, 0);
            x.tap(card, 3, 0);
        }
        for (int card : new int[] {0, 3}) {
            checks.due("first word of copy 0", x.word(card, 0, 0), 0);
            checks.due("last word of copy 0", x.word(card, 0, 7), 2 * 4096);
            checks.due("first word of copy 1", x.word(card, 1, 0), 0);
            checks.due("last word of copy 1", x.word(card, 1, 7), 4096);
            for (int bad : Arguments.outside(0, 7)) {
                checks.due("word(" + card + ", 0, " + bad + ")", x.word(card, 0, bad), TapOffice.REFUSED);
                checks.due("word(" + card + ", 1, " + bad + ")", x.word(card, 1, bad), TapOffice.REFUSED);
            }
            for (int bad : Arguments.outside(0, 1)) {
                checks.due("word(" + card + ", " + bad + ", 2)", x.word(card, bad, 2), TapOffice.REFUSED);
            }
        }
        for (int bad : Arguments.outside(0, 3)) {
            checks.due("word(" + bad + ", 0, 2)", x.word(bad, 0, 2), TapOffice.REFUSED);
            checks.due("word(" + bad + ", 1, 2)", x.word(bad, 1, 2), TapOffice.REFUSED);
        }
    }

    private void wordMayBeMinusOne() {
        checks.sentence("REFUSED for numbers out of range (a word may be that too).");
        TapOffice x = new TapOffice();
        x.fare(0, 0, 1);
        x.place(0, 0, true);
        x.tap(0, 0, 0);
        checks.due("a BALANCE of -1", x.word(0, 1, 0), -1);
        checks.due("a ZONE of -1", x.word(0, 1, 1), -1);
        checks.due("a BALANCE of -1, of the record", x.card(0, 0), -1);
        checks.due("a ZONE of -1, of the record", x.card(0, 1), -1);
        checks.due("a BALANCE of -1, in the log", x.logged(0, 0, 3), -1);
        for (int i = 2; i <= 5; i++) {
            x.tap(0, 0, 0);
            checks.due("a BALANCE of " + -i, x.word(0, i % 2, 0), -i);
        }
    }

    private void cardAtItsEdges() {
        checks.sentence("Of a card's record: 0 BALANCE .. 7 SPENT as it counts today; REFUSED for others.");
        TapOffice x = beforeAnExit();
        x.tap(0, 3, 8);
        int[] want = {-70, -1, 1450, 2, 50, 1455, 3, 70};
        for (int what = 0; what < 8; what++) {
            checks.due("card(0, " + what + ")", x.card(0, what), want[what]);
        }
        x.clock(2879 - 1455);
        checks.due("SPENT in the last minute of the day", x.card(0, 7), 70);
        x.clock(1);
        checks.due("SPENT in the first minute of the next", x.card(0, 7), 0);
        x.tap(0, 1, 0);
        for (int bad : Arguments.outside(0, 7)) {
            checks.due("card(0, " + bad + ")", x.card(0, bad), TapOffice.REFUSED);
            checks.due("card(3, " + bad + ")", x.card(3, bad), TapOffice.REFUSED);
        }
        for (int bad : Arguments.outside(0, 3)) {
            checks.due("card(" + bad + ", 7)", x.card(bad, 7), TapOffice.REFUSED);
        }
    }
}
