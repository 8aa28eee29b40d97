import java.util.Random;

/** Promises 1 to 15: runs of 512 calls, each answer compared with that of a plain model. */
public final class ModelTest {
    private static final int RUNS = 4000;
    private static final int CALLS = 512;
    // What can be read of an object in the end, by readAll.
    private static final int READS = 260;
    private static final int[] WILD = {-1, -2, 4, 6, 8, 9, 1000, 1441, 3001, 10000, Integer.MIN_VALUE, Integer.MAX_VALUE};
    private static final int[] STEPS = {0, 1, 5, 15, 29, 30, 31, 60, 90, 179, 180, 181, 700, 1439, 1440, 3000};

    private final Checks checks;
    private final Random random;
    private final TapOffice real = new TapOffice();
    private final Model model = new Model();
    private final int run;
    private final int wildness;
    private final int busyCards;
    private int calls;

    private ModelTest(int run, Checks checks) {
        this.run = run;
        this.checks = checks;
        random = new Random(run);
        wildness = run % 3 == 0 ? 10 : 200;
        busyCards = 1 + run % 4;
    }

    public static void main(String[] args) {
        Checks checks = new Checks();
        for (int run = 1; run <= RUNS; run++) {
            new ModelTest(run, checks).go();
        }
        for (int run = 1; run <= 8; run++) {
            new ModelTest(run, checks).changeOneCardAlone();
        }
        checks.finish();
    }

    private void go() {
        prepare();
        boolean readsInTheEnd = run % 2 == 0;
        int end = readsInTheEnd ? CALLS - READS : CALLS;
        while (calls < end) {
            callSomething(!readsInTheEnd);
        }
        if (readsInTheEnd) {
            readAll();
        }
    }

    /** As many changes of one card as a run can hold, with some entries lost for ever. */
    private void changeOneCardAlone() {
        fare(0, 0, 1);
        place(0, 0, true);
        while (calls < CALLS - 10) {
            if (calls % 9 == 0) {
                upload(0, false);
            } else if (random.nextInt(2) == 0) {
                topUp(0, 1 + random.nextInt(20));
            } else {
                tap(0, 0, random.nextInt(3) == 0 ? 8 : 0);
            }
        }
        topUp(0, 1);
        for (int what = 0; what < 6; what++) {
            office(0, what);
        }
        card(0, 6);
    }

    private void prepare() {
        for (int i = 0; i < 12; i++) {
            fare(random.nextInt(6), random.nextInt(6), random.nextInt(run % 5 == 0 ? 1000 : 150));
        }
        for (int i = 0; i < busyCards; i++) {
            topUp(i, 999);
        }
        if (run % 2 == 0) {
            set(0, random.nextInt(1441));
            set(1, random.nextInt(1441));
            set(2, random.nextInt(201));
        }
        if (run % 7 == 0) {
            set(3, random.nextInt(500));
        }
    }

    private int pick(int bound) {
        return random.nextInt(wildness) == 0 ? WILD[random.nextInt(WILD.length)] : random.nextInt(bound);
    }

    private int pickCard() {
        return random.nextInt(20) == 0 ? pick(4) : random.nextInt(busyCards);
    }

    private int pickTear() {
        return random.nextInt(6) == 0 ? pick(9) : 0;
    }

    private void callSomething(boolean withReads) {
        int kind = random.nextInt(withReads ? 100 : 70);
        if (kind < 30) {
            tap(pickCard(), pick(4), pickTear());
        } else if (kind < 42) {
            clock(random.nextInt(wildness) == 0 ? pick(3001) : STEPS[random.nextInt(random.nextInt(4) == 0 ? 16 : 8)]);
        } else if (kind < 50) {
            place(pick(4), pick(6), random.nextBoolean());
        } else if (kind < 55) {
            topUp(pickCard(), random.nextInt(3) == 0 ? pick(1000) : 1 + random.nextInt(999));
        } else if (kind < 62) {
            upload(pick(4), random.nextInt(4) == 0);
        } else if (kind < 64) {
            deny(pick(4), random.nextInt(3) == 0);
        } else if (kind < 67) {
            fare(pick(6), pick(6), pick(1000));
        } else if (kind < 70) {
            setSomething();
        } else {
            readSomething(kind);
        }
    }

    private void setSomething() {
        int setting = pick(5);
        int[] bounds = {1441, 1441, 201, 2000, 60};
        set(setting, pick(setting >= 0 && setting < 5 ? bounds[setting] : 5));
        // A cap or a least that stays on would leave little else to see.
        if (random.nextInt(2) == 0) {
            set(3, 9999);
            set(4, 0);
        }
    }

    private void readSomething(int kind) {
        if (kind < 76) {
            word(pickCard(), pick(2), pick(8));
        } else if (kind < 83) {
            card(pickCard(), pick(8));
        } else if (kind < 87) {
            logged(pick(4), pick(8), pick(4));
        } else if (kind < 95) {
            office(pickCard(), pick(6));
        } else if (kind < 97) {
            income(pick(4));
        } else {
            count(pick(4));
        }
    }

    private void readAll() {
        for (int i = 0; i < 4; i++) {
            for (int word = 0; word < 8; word++) {
                word(i, 0, word);
                word(i, 1, word);
                card(i, word);
                for (int what = 0; what < 4; what++) {
                    logged(i, word, what);
                }
            }
            for (int what = 0; what < 6; what++) {
                office(i, what);
            }
            income(i);
            count(i);
        }
    }

    private void due(String call, int got, int want) {
        calls++;
        if (got != want && calls <= CALLS) {
            checks.due("run " + run + ", call " + calls + ": " + call, got, want);
        }
    }

    private void fare(int a, int b, int amount) {
        due("fare(" + a + ", " + b + ", " + amount + ")", real.fare(a, b, amount), model.fare(a, b, amount));
    }

    private void set(int setting, int value) {
        due("set(" + setting + ", " + value + ")", real.set(setting, value), model.set(setting, value));
    }

    private void place(int validator, int zone, boolean exit) {
        due("place(" + validator + ", " + zone + ", " + exit + ")",
            real.place(validator, zone, exit), model.place(validator, zone, exit));
    }

    private void clock(int minutes) {
        due("clock(" + minutes + ")", real.clock(minutes), model.clock(minutes));
    }

    private void tap(int card, int validator, int tear) {
        due("tap(" + card + ", " + validator + ", " + tear + ")",
            real.tap(card, validator, tear), model.tap(card, validator, tear));
    }

    private void topUp(int card, int amount) {
        due("topUp(" + card + ", " + amount + ")", real.topUp(card, amount), model.topUp(card, amount));
    }

    private void upload(int validator, boolean lost) {
        due("upload(" + validator + ", " + lost + ")", real.upload(validator, lost), model.upload(validator, lost));
    }

    private void deny(int card, boolean on) {
        due("deny(" + card + ", " + on + ")", real.deny(card, on), model.deny(card, on));
    }

    private void word(int card, int copy, int word) {
        due("word(" + card + ", " + copy + ", " + word + ")",
            real.word(card, copy, word), model.word(card, copy, word));
    }

    private void card(int card, int what) {
        due("card(" + card + ", " + what + ")", real.card(card, what), model.card(card, what));
    }

    private void logged(int validator, int i, int what) {
        due("logged(" + validator + ", " + i + ", " + what + ")",
            real.logged(validator, i, what), model.logged(validator, i, what));
    }

    private void office(int card, int what) {
        due("office(" + card + ", " + what + ")", real.office(card, what), model.office(card, what));
    }

    private void income(int validator) {
        due("income(" + validator + ")", real.income(validator), model.income(validator));
    }

    private void count(int what) {
        due("count(" + what + ")", real.count(what), model.count(what));
    }
}
