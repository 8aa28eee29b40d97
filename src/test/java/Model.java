import java.util.ArrayList;
import java.util.HashMap;
import java.util.HashSet;
import java.util.List;
import java.util.Map;
import java.util.Set;
import java.util.TreeMap;

/** The document, written down a second time with the Java library and with no thought of room. */
final class Model {
    private record Entry(boolean topUp, int amount, int balance) { }

    private record Logged(int card, int counter, int charge, int balance) { }

    private static final int[] MOST = {1440, 1440, 200, 9999, 999};

    private int t;
    private int torn;
    private final Map<Set<Integer>, Integer> fares = new HashMap<>();
    private final int[] settings = {0, 0, 0, 9999, 0};
    private final List<List<int[]>> copies = new ArrayList<>();
    private final int[] zones = {0, 1, 2, 3};
    private final boolean[] exits = new boolean[4];
    private final List<List<Logged>> logs = new ArrayList<>();
    private final List<Set<Integer>> deniedAt = new ArrayList<>();
    private final List<TreeMap<Integer, Entry>> known = new ArrayList<>();
    private final int[] incomes = new int[4];
    private Set<Integer> denied = new HashSet<>();

    Model() {
        for (int i = 0; i < 4; i++) {
            List<int[]> two = new ArrayList<>();
            two.add(new int[] {0, -1, 0, 0, 0, -1000, 0, 0});
            two.add(new int[] {0, -1, 0, 0, 0, -1000, 0, 0});
            copies.add(two);
            logs.add(new ArrayList<>());
            deniedAt.add(new HashSet<>());
            known.add(new TreeMap<>());
        }
    }

    private static boolean in(int number, int least, int most) {
        return least <= number && number <= most;
    }

    private int fareOf(int a, int b) {
        return fares.getOrDefault(new HashSet<>(List.of(a, b)), 0);
    }

    private int fullFare(int a) {
        int most = 0;
        for (int b = 0; b <= 5; b++) {
            most = Math.max(most, fareOf(a, b));
        }
        return most;
    }

    private int price(int x, int time) {
        int minute = time % 1440;
        if (minute < settings[0] || minute >= settings[1]) {
            return x;
        }
        return x + (int) Math.floor(x * settings[2] / 100.0 + 1e-9);
    }

    private int recordOf(int card) {
        return copies.get(card).get(0)[7] >> 12 >= copies.get(card).get(1)[7] >> 12 ? 0 : 1;
    }

    private int spentToday(int[] record) {
        return (record[7] & 4095) == t / 1440 ? record[6] : 0;
    }

    /** Writes a new record, whose first seven words are given, and answers its COUNTER. */
    private int change(int card, int[] fresh, int tear) {
        int old = recordOf(card);
        int counter = (copies.get(card).get(old)[7] >> 12) + 1;
        fresh[7] = (counter << 12) + t / 1440;
        int words = tear == 0 ? 8 : tear;
        for (int i = 0; i < words; i++) {
            copies.get(card).get(1 - old)[i] = fresh[i];
        }
        return counter;
    }

    int fare(int a, int b, int amount) {
        if (!in(a, 0, 5) || !in(b, 0, 5) || !in(amount, 0, 999)) {
            return -1;
        }
        Set<Integer> pair = new HashSet<>();
        pair.add(a);
        pair.add(b);
        fares.put(pair, amount);
        return 0;
    }

    int set(int setting, int value) {
        if (!in(setting, 0, 4) || !in(value, 0, MOST[setting])) {
            return -1;
        }
        settings[setting] = value;
        return 0;
    }

    int place(int validator, int zone, boolean exit) {
        if (!in(validator, 0, 3) || !in(zone, 0, 5)) {
            return -1;
        }
        zones[validator] = zone;
        exits[validator] = exit;
        return 0;
    }

    int clock(int minutes) {
        if (!in(minutes, 0, 3000)) {
            return -1;
        }
        t += minutes;
        return t;
    }

    int tap(int card, int validator, int tear) {
        if (!in(card, 0, 3) || !in(validator, 0, 3) || !in(tear, 0, 8)) {
            return -1;
        }
        int[] r = copies.get(card).get(recordOf(card)).clone();
        if (logs.get(validator).size() == 8) {
            return -2;
        }
        if (deniedAt.get(validator).contains(card)) {
            return -4;
        }
        if (!exits[validator] && r[0] < settings[4]) {
            return -3;
        }
        r[6] = spentToday(r);
        int charge = exits[validator] ? exit(r, zones[validator]) : entry(r, zones[validator]);
        r[0] -= charge;
        r[6] += charge;
        int counter = change(card, r, tear);
        if (tear > 0) {
            torn++;
            return -5;
        }
        logs.get(validator).add(new Logged(card, counter, charge, r[0]));
        return charge;
    }

    private int capped(int x, int[] r) {
        int left = settings[3] - r[6];
        return left < 0 ? 0 : x < left ? x : left;
    }

    private int entry(int[] r, int z) {
        int charge = 0;
        if (r[1] != -1) {
            charge = capped(price(fullFare(r[1]), r[2]), r);
            r[3] = z;
            r[4] = 0;
        } else if (t > r[5] + 30) {
            r[3] = z;
            r[4] = 0;
        }
        r[1] = z;
        r[2] = t;
        return charge;
    }

    private int exit(int[] r, int z) {
        int charge;
        if (r[1] == -1) {
            charge = capped(price(fullFare(z), t), r);
            r[4] = 0;
            r[5] = -1000;
        } else if (t - r[2] > 180) {
            charge = capped(price(fullFare(r[1]), r[2]), r);
            r[4] = 0;
            r[5] = -1000;
        } else {
            int due = price(fareOf(r[3], z), r[2]);
            charge = capped(due > r[4] ? due - r[4] : 0, r);
            r[4] += charge;
            r[5] = t;
        }
        r[1] = -1;
        return charge;
    }

    int topUp(int card, int amount) {
        if (!in(card, 0, 3) || !in(amount, 1, 999)) {
            return -1;
        }
        int[] r = copies.get(card).get(recordOf(card)).clone();
        r[0] += amount;
        if (r[0] > 9999) {
            return -1;
        }
        r[6] = spentToday(r);
        known.get(card).put(change(card, r, 0), new Entry(true, amount, r[0]));
        return r[0];
    }

    int upload(int validator, boolean lost) {
        if (!in(validator, 0, 3)) {
            return -1;
        }
        if (lost) {
            return 0;
        }
        int sent = logs.get(validator).size();
        for (Logged e : logs.get(validator)) {
            known.get(e.card()).put(e.counter(), new Entry(false, e.charge(), e.balance()));
            incomes[validator] += e.charge();
        }
        logs.get(validator).clear();
        deniedAt.set(validator, new HashSet<>(denied));
        return sent;
    }

    int deny(int card, boolean on) {
        if (!in(card, 0, 3)) {
            return -1;
        }
        if (on) {
            denied.add(card);
        } else {
            denied.remove(card);
        }
        return 0;
    }

    int word(int card, int copy, int word) {
        boolean is = in(card, 0, 3) && in(copy, 0, 1) && in(word, 0, 7);
        return is ? copies.get(card).get(copy)[word] : -1;
    }

    int card(int card, int what) {
        if (!in(card, 0, 3) || !in(what, 0, 7)) {
            return -1;
        }
        int[] r = copies.get(card).get(recordOf(card));
        return what == 6 ? r[7] >> 12 : what == 7 ? spentToday(r) : r[what];
    }

    int logged(int validator, int i, int what) {
        if (!in(validator, 0, 3) || !in(i, 0, logs.get(validator).size() - 1) || !in(what, 0, 3)) {
            return -1;
        }
        Logged e = logs.get(validator).get(i);
        return List.of(e.card(), e.counter(), e.charge(), e.balance()).get(what);
    }

    int office(int card, int what) {
        if (!in(card, 0, 3) || !in(what, 0, 5)) {
            return -1;
        }
        TreeMap<Integer, Entry> entries = known.get(card);
        int greatest = entries.isEmpty() ? 0 : entries.lastKey();
        int missing = 0;
        for (int counter = 1; counter < greatest; counter++) {
            missing += entries.containsKey(counter) ? 0 : 1;
        }
        int charges = entries.values().stream().filter(e -> !e.topUp()).mapToInt(Entry::amount).sum();
        int topUps = entries.values().stream().filter(Entry::topUp).mapToInt(Entry::amount).sum();
        return List.of(entries.size(), greatest, missing, lost(entries), charges, topUps).get(what);
    }

    private static int lost(TreeMap<Integer, Entry> entries) {
        int sum = 0;
        for (Map.Entry<Integer, Entry> at : entries.entrySet()) {
            if (at.getKey() == 1 || entries.containsKey(at.getKey() - 1)) {
                continue;
            }
            Map.Entry<Integer, Entry> last = entries.lowerEntry(at.getKey());
            Entry e = at.getValue();
            int before = e.topUp() ? e.balance() - e.amount() : e.balance() + e.amount();
            sum += (last == null ? 0 : last.getValue().balance()) - before;
        }
        return sum;
    }

    int income(int validator) {
        return in(validator, 0, 3) ? incomes[validator] : -1;
    }

    int count(int what) {
        int entries = logs.stream().mapToInt(List::size).sum();
        return in(what, 0, 3) ? List.of(t, entries, torn, denied.size()).get(what) : -1;
    }
}
