/**
 * Fares on contactless cards: cards with two copies of their record, validators
 * that work off-line and keep logs, and an office that puts the logs together.
 */
public final class TapOffice {
    public static final int REFUSED = -1;
    public static final int FULL = -2;
    public static final int LOW = -3;
    public static final int DENIED = -4;
    public static final int TORN = -5;

    private static final int CARDS = 4;
    private static final int VALIDATORS = 4;
    private static final int ZONES = 6;
    private static final int COPIES = 2;
    private static final int MOST_CALLS = 512;

    private static final int DAY_MINUTES = 1440;
    private static final int MOST_CLOCK_STEP = 3000;
    private static final int TRANSFER_MINUTES = 30;
    private static final int JOURNEY_MINUTES = 180;

    private static final int MOST_FARE = 999;
    private static final int MOST_TOP_UP = 999;
    private static final int MOST_BALANCE = 9999;

    private static final int BALANCE = 0;
    private static final int ZONE = 1;
    private static final int SINCE = 2;
    private static final int FIRST = 3;
    private static final int PAID = 4;
    private static final int ENDED = 5;
    private static final int SPENT = 6;
    private static final int STAMP = 7;
    private static final int WORDS = 8;
    private static final int STAMP_DAYS = 4096;
    private static final int NO_ZONE = -1;
    private static final int LONG_AGO = -1000;
    private static final int[] BLANK_RECORD = {0, -1, 0, 0, 0, -1000, 0, 0};

    private static final int PEAK_FROM = 0;
    private static final int PEAK_TO = 1;
    private static final int PEAK_PERCENT = 2;
    private static final int CAP = 3;
    private static final int LEAST = 4;
    private static final int SETTINGS = 5;
    private static final int[] FIRST_SETTINGS = {0, 0, 0, 9999, 0};
    private static final int[] MOST_SETTINGS = {1440, 1440, 200, 9999, 999};

    private static final int LOG_ENTRIES = 8;
    private static final int ENTRY_CARD = 0;
    private static final int ENTRY_COUNTER = 1;
    private static final int ENTRY_CHARGE = 2;
    private static final int ENTRY_BALANCE = 3;
    private static final int ENTRY_PARTS = 4;

    private final Tariff tariff = new Tariff();
    private final Card[] cards = new Card[CARDS];
    private final Account[] accounts = new Account[CARDS];
    private final Validator[] validators = new Validator[VALIDATORS];
    private final int[] incomes = new int[VALIDATORS];
    private int now;
    private int deniedCards;
    private int tornTaps;

    public TapOffice() {
        for (int i = 0; i < CARDS; i++) {
            cards[i] = new Card();
            accounts[i] = new Account();
        }
        for (int i = 0; i < VALIDATORS; i++) {
            validators[i] = new Validator(i);
        }
    }

    public int fare(int a, int b, int amount) {
        if (!isBelow(a, ZONES) || !isBelow(b, ZONES) || amount < 0 || amount > MOST_FARE) {
            return REFUSED;
        }
        tariff.putFare(a, b, amount);
        return 0;
    }

    public int set(int setting, int value) {
        if (!isBelow(setting, SETTINGS) || value < 0 || value > MOST_SETTINGS[setting]) {
            return REFUSED;
        }
        tariff.putSetting(setting, value);
        return 0;
    }

    public int place(int validator, int zone, boolean exit) {
        if (!isBelow(validator, VALIDATORS) || !isBelow(zone, ZONES)) {
            return REFUSED;
        }
        validators[validator].moveTo(zone, exit);
        return 0;
    }

    public int clock(int minutes) {
        if (minutes < 0 || minutes > MOST_CLOCK_STEP) {
            return REFUSED;
        }
        now += minutes;
        return now;
    }

    public int tap(int card, int validator, int tear) {
        if (!isBelow(card, CARDS) || !isBelow(validator, VALIDATORS) || tear < 0 || tear > WORDS) {
            return REFUSED;
        }
        Card tapped = cards[card];
        Validator gate = validators[validator];
        if (gate.isFull()) {
            return FULL;
        }
        if (gate.denies(card)) {
            return DENIED;
        }
        if (!gate.isExit() && tapped.read(BALANCE) < tariff.least()) {
            return LOW;
        }
        int charge = tapped.draftTap(gate, now, tariff);
        if (tear != 0) {
            tapped.writeDraft(tear);
            tornTaps++;
            return TORN;
        }
        tapped.writeDraft(WORDS);
        gate.keepEntry(card, tapped.counter(), charge, tapped.read(BALANCE));
        return charge;
    }

    public int topUp(int card, int amount) {
        if (!isBelow(card, CARDS) || amount < 1 || amount > MOST_TOP_UP) {
            return REFUSED;
        }
        Card filled = cards[card];
        if (filled.read(BALANCE) + amount > MOST_BALANCE) {
            return REFUSED;
        }
        filled.draftTopUp(amount, now);
        filled.writeDraft(WORDS);
        int balance = filled.read(BALANCE);
        accounts[card].enterTopUp(filled.counter(), amount, balance);
        return balance;
    }

    public int upload(int validator, boolean lost) {
        if (!isBelow(validator, VALIDATORS)) {
            return REFUSED;
        }
        if (lost) {
            return 0;
        }
        Validator sender = validators[validator];
        int sent = sender.logSize();
        for (int i = 0; i < sent; i++) {
            receiveEntry(validator, i);
        }
        sender.emptyLog();
        sender.takeDenied(deniedCards);
        return sent;
    }

    public int deny(int card, boolean on) {
        if (!isBelow(card, CARDS)) {
            return REFUSED;
        }
        deniedCards = on ? deniedCards | (1 << card) : deniedCards & ~(1 << card);
        return 0;
    }

    public int word(int card, int copy, int word) {
        if (!isBelow(card, CARDS) || !isBelow(copy, COPIES) || !isBelow(word, WORDS)) {
            return REFUSED;
        }
        return cards[card].readCopy(copy, word);
    }

    public int card(int card, int what) {
        if (!isBelow(card, CARDS)) {
            return REFUSED;
        }
        Card asked = cards[card];
        switch (what) {
            case 0: return asked.read(BALANCE);
            case 1: return asked.read(ZONE);
            case 2: return asked.read(SINCE);
            case 3: return asked.read(FIRST);
            case 4: return asked.read(PAID);
            case 5: return asked.read(ENDED);
            case 6: return asked.counter();
            case 7: return asked.spentOn(now / DAY_MINUTES);
            default: return REFUSED;
        }
    }

    public int logged(int validator, int i, int what) {
        if (!isBelow(validator, VALIDATORS) || !isBelow(what, ENTRY_PARTS)) {
            return REFUSED;
        }
        Validator asked = validators[validator];
        return isBelow(i, asked.logSize()) ? asked.readEntry(i, what) : REFUSED;
    }

    public int office(int card, int what) {
        if (!isBelow(card, CARDS)) {
            return REFUSED;
        }
        Account asked = accounts[card];
        switch (what) {
            case 0: return asked.known();
            case 1: return asked.greatestCounter();
            case 2: return asked.missing();
            case 3: return asked.lostMoney();
            case 4: return asked.allCharges();
            case 5: return asked.allTopUps();
            default: return REFUSED;
        }
    }

    public int income(int validator) {
        return isBelow(validator, VALIDATORS) ? incomes[validator] : REFUSED;
    }

    public int count(int what) {
        switch (what) {
            case 0: return now;
            case 1: return entriesInLogs();
            case 2: return tornTaps;
            case 3: return Integer.bitCount(deniedCards);
            default: return REFUSED;
        }
    }

    private static boolean isBelow(int number, int bound) {
        return number >= 0 && number < bound;
    }

    private void receiveEntry(int validator, int i) {
        Validator sender = validators[validator];
        int card = sender.readEntry(i, ENTRY_CARD);
        if (!isBelow(card, CARDS)) {
            return;
        }
        int charge = sender.readEntry(i, ENTRY_CHARGE);
        accounts[card].enterCharge(sender.readEntry(i, ENTRY_COUNTER), charge, sender.readEntry(i, ENTRY_BALANCE));
        incomes[validator] += charge;
    }

    private int entriesInLogs() {
        int entries = 0;
        for (int i = 0; i < VALIDATORS; i++) {
            entries += validators[i].logSize();
        }
        return entries;
    }

    /** The fares and the settings, and the prices that follow from them. */
    private static final class Tariff {
        private final int[][] fares = new int[ZONES][ZONES];
        private final int[] settings = FIRST_SETTINGS.clone();

        void putFare(int a, int b, int amount) {
            fares[a][b] = amount;
            fares[b][a] = amount;
        }

        void putSetting(int setting, int value) {
            settings[setting] = value;
        }

        int least() {
            return settings[LEAST];
        }

        int priceBetween(int a, int b, int time) {
            return isBelow(a, ZONES) && isBelow(b, ZONES) ? price(fares[a][b], time) : 0;
        }

        int fullPrice(int zone, int time) {
            if (!isBelow(zone, ZONES)) {
                return 0;
            }
            int greatest = 0;
            for (int b = 0; b < ZONES; b++) {
                greatest = Math.max(greatest, fares[zone][b]);
            }
            return price(greatest, time);
        }

        int capped(int charge, int spent) {
            return Math.max(0, Math.min(charge, settings[CAP] - spent));
        }

        private int price(int amount, int time) {
            int minute = time % DAY_MINUTES;
            boolean peak = minute >= settings[PEAK_FROM] && minute < settings[PEAK_TO];
            return peak ? amount + amount * settings[PEAK_PERCENT] / 100 : amount;
        }
    }

    /** A card: two copies of its record, and the draft of the record that comes next. */
    private static final class Card {
        private final int[][] copies = new int[COPIES][WORDS];
        // Kept with the card, so that no tap has to make a row.
        private final int[] draft = new int[WORDS];

        Card() {
            System.arraycopy(BLANK_RECORD, 0, copies[0], 0, WORDS);
            System.arraycopy(BLANK_RECORD, 0, copies[1], 0, WORDS);
        }

        int readCopy(int copy, int word) {
            return copies[copy][word];
        }

        int read(int word) {
            return copies[recordCopy()][word];
        }

        int counter() {
            return read(STAMP) / STAMP_DAYS;
        }

        int spentOn(int day) {
            return read(STAMP) % STAMP_DAYS == day ? read(SPENT) : 0;
        }

        void draftTopUp(int amount, int time) {
            startDraft(time);
            draft[BALANCE] += amount;
        }

        /** Drafts the record after a tap, and answers the charge. */
        int draftTap(Validator gate, int time, Tariff tariff) {
            startDraft(time);
            int charge = gate.isExit()
                ? draftExit(gate.zone(), time, tariff)
                : draftEntry(gate.zone(), time, tariff);
            draft[BALANCE] -= charge;
            draft[SPENT] += charge;
            return charge;
        }

        /** Writes the first words of the draft over the copy that is not the record. */
        void writeDraft(int words) {
            // Chosen once: the last word that is written makes this copy the record.
            int[] target = copies[1 - recordCopy()];
            for (int i = 0; i < words && i < WORDS; i++) {
                target[i] = draft[i];
            }
        }

        private int recordCopy() {
            return copies[1][STAMP] / STAMP_DAYS > copies[0][STAMP] / STAMP_DAYS ? 1 : 0;
        }

        private void startDraft(int time) {
            int day = time / DAY_MINUTES;
            System.arraycopy(copies[recordCopy()], 0, draft, 0, WORDS);
            draft[SPENT] = spentOn(day);
            draft[STAMP] = (counter() + 1) * STAMP_DAYS + day;
        }

        private int draftEntry(int zone, int time, Tariff tariff) {
            boolean wasOpen = draft[ZONE] != NO_ZONE;
            int charge = wasOpen ? tariff.capped(tariff.fullPrice(draft[ZONE], draft[SINCE]), draft[SPENT]) : 0;
            if (wasOpen || time > draft[ENDED] + TRANSFER_MINUTES) {
                draft[FIRST] = zone;
                draft[PAID] = 0;
            }
            draft[ZONE] = zone;
            draft[SINCE] = time;
            return charge;
        }

        private int draftExit(int zone, int time, Tariff tariff) {
            boolean inTime = draft[ZONE] != NO_ZONE && time <= draft[SINCE] + JOURNEY_MINUTES;
            int price = inTime
                ? tariff.priceBetween(draft[FIRST], zone, draft[SINCE]) - draft[PAID]
                : priceOutOfTime(zone, time, tariff);
            int charge = tariff.capped(price, draft[SPENT]);
            draft[PAID] = inTime ? draft[PAID] + charge : 0;
            draft[ENDED] = inTime ? time : LONG_AGO;
            draft[ZONE] = NO_ZONE;
            return charge;
        }

        private int priceOutOfTime(int zone, int time, Tariff tariff) {
            return draft[ZONE] == NO_ZONE
                ? tariff.fullPrice(zone, time)
                : tariff.fullPrice(draft[ZONE], draft[SINCE]);
        }
    }

    /** A validator: where it stands, its log, and the denied set that it last got. */
    private static final class Validator {
        private final int[][] log = new int[LOG_ENTRIES][ENTRY_PARTS];
        private int size;
        private int zone;
        private boolean exit;
        private int denied;

        Validator(int zone) {
            this.zone = zone;
        }

        void moveTo(int newZone, boolean forExit) {
            zone = newZone;
            exit = forExit;
        }

        int zone() {
            return zone;
        }

        boolean isExit() {
            return exit;
        }

        boolean denies(int card) {
            return (denied >> card & 1) == 1;
        }

        void takeDenied(int cards) {
            denied = cards;
        }

        boolean isFull() {
            return size >= LOG_ENTRIES;
        }

        int logSize() {
            return size;
        }

        int readEntry(int i, int part) {
            return log[i][part];
        }

        void keepEntry(int card, int counter, int charge, int balance) {
            if (isFull()) {
                return;
            }
            int[] entry = log[size];
            entry[ENTRY_CARD] = card;
            entry[ENTRY_COUNTER] = counter;
            entry[ENTRY_CHARGE] = charge;
            entry[ENTRY_BALANCE] = balance;
            size++;
        }

        void emptyLog() {
            size = 0;
        }
    }

    /** What the office has of one card: its entries by their counter, and their sums. */
    private static final class Account {
        private final boolean[] has = new boolean[MOST_CALLS + 1];
        private final int[] before = new int[MOST_CALLS + 1];
        private final int[] after = new int[MOST_CALLS + 1];
        private int entries;
        private int greatest;
        private int charges;
        private int topUps;

        int known() {
            return entries;
        }

        int greatestCounter() {
            return greatest;
        }

        int missing() {
            return greatest - entries;
        }

        int allCharges() {
            return charges;
        }

        int allTopUps() {
            return topUps;
        }

        void enterCharge(int counter, int charge, int balance) {
            if (enter(counter, balance + charge, balance)) {
                charges += charge;
            }
        }

        void enterTopUp(int counter, int amount, int balance) {
            if (enter(counter, balance - amount, balance)) {
                topUps += amount;
            }
        }

        int lostMoney() {
            int lost = 0;
            int lastCounter = 0;
            int lastBalance = 0;
            for (int counter = 1; counter <= MOST_CALLS; counter++) {
                if (has[counter]) {
                    if (counter != lastCounter + 1) {
                        lost += lastBalance - before[counter];
                    }
                    lastCounter = counter;
                    lastBalance = after[counter];
                }
            }
            return lost;
        }

        // No run of 512 calls brings a counter above 512, or one counter twice.
        private boolean enter(int counter, int balanceBefore, int balanceAfter) {
            if (counter < 1 || counter > MOST_CALLS || has[counter]) {
                return false;
            }
            has[counter] = true;
            before[counter] = balanceBefore;
            after[counter] = balanceAfter;
            entries++;
            greatest = Math.max(greatest, counter);
            return true;
        }
    }
}
