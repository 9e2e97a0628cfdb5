import java.util.ArrayList;
import java.util.Arrays;
import java.util.List;
import java.util.Random;

/**
 * What must hold however tables are merged: get and next see just what was written, no entry is lost
 * but by a crash or by dropping, and tables lie on their levels as "Terms" says. All of it is told
 * from a list of what was written, so that PlainStore's reading of the document has no part in it.
 */
public final class HistoryTest {
    private static final int RUNS = 300;
    private static final int CHANGING_CALLS = 256;
    private static final int MOST_CALLS = 512;
    private static final int[] KEYS = {3, 12, 64};
    private static int wrong;

    private record Written(int key, Integer value) {
    }

    private final String name;
    private final Random random;
    private final int keys;
    private final LevelStore store = new LevelStore();
    private final List<Written> history = new ArrayList<>();
    /** How long the history was when each record that a crash might lose had been written. */
    private final List<Integer> recordEnds = new ArrayList<>();
    private final Integer[] snapshots = new Integer[4];
    private List<Written> batch;
    private int safe;
    private int calls;

    private HistoryTest(int seed) {
        name = "HistoryTest: seed " + seed;
        random = new Random(seed);
        keys = KEYS[seed % KEYS.length];
    }

    public static void main(String[] args) {
        for (int seed = 0; seed < RUNS; seed++) {
            new HistoryTest(seed).changed().requireSight();
            new HistoryTest(seed).changed().requireTables();
        }
        System.out.println("HistoryTest: " + (wrong == 0 ? "all that was written is seen" : wrong + " wrong"));
        System.exit(wrong == 0 ? 0 : 1);
    }

    private void require(boolean holds, String what) {
        if (!holds) {
            wrong++;
            System.out.println(name + ", call " + calls + ": does not hold: " + what);
        }
    }

    private String ask(String call) {
        calls++;
        require(calls <= MOST_CALLS, "at most 512 calls");
        return Caller.answer(store, call);
    }

    private int number(String call) {
        String answer = ask(call);
        boolean isNumber = answer.matches("-?\\d+");
        require(isNumber, call + " answers a number, not " + answer);
        return isNumber ? Integer.parseInt(answer) : 0;
    }

    private static boolean isThrown(String answer) {
        return answer.endsWith("Exception");
    }

    private HistoryTest changed() {
        while (calls < CHANGING_CALLS) {
            int at = random.nextInt(100);
            if (at < 80) {
                write();
            } else if (at < 90) {
                openOrClose();
            } else if (at < 94) {
                keepOrFreeSnapshot();
            } else if (at < 97) {
                ask("flush");
            } else if (at < 99) {
                sync();
            } else {
                crash();
            }
        }
        return this;
    }

    private void write() {
        int key = random.nextInt(keys);
        Integer value = random.nextInt(3) == 0 ? null : random.nextInt();
        if (isThrown(ask(value == null ? "remove " + key : "put " + key + " " + value))) {
            return;
        }
        if (batch == null) {
            addRecord(List.of(new Written(key, value)));
        } else {
            batch.add(new Written(key, value));
        }
    }

    private void addRecord(List<Written> record) {
        history.addAll(record);
        recordEnds.add(history.size());
    }

    private void openOrClose() {
        if (batch == null) {
            ask("open");
            batch = new ArrayList<>();
            return;
        }
        boolean keep = random.nextInt(5) > 0;
        if (!isThrown(ask("close " + keep))) {
            if (keep && !batch.isEmpty()) {
                addRecord(batch);
            }
            batch = null;
        }
    }

    private void keepOrFreeSnapshot() {
        int s = random.nextInt(4);
        if (snapshots[s] != null) {
            ask("release " + s);
            snapshots[s] = null;
            return;
        }
        snapshots[number("snapshot")] = history.size();
    }

    private void sync() {
        ask("sync");
        safe = history.size();
    }

    private void crash() {
        int records = number("count 2");
        int left = number("crash " + random.nextInt(4));
        for (int lost = left; lost < records; lost++) {
            recordEnds.remove(recordEnds.size() - 1);
        }
        int end = recordEnds.isEmpty() ? 0 : recordEnds.get(recordEnds.size() - 1);
        history.subList(end, history.size()).clear();
        require(history.size() >= safe, "a crash loses nothing that was synced");
        safe = history.size();
        batch = null;
        Arrays.fill(snapshots, null);
    }

    /** The value that a key has behind so many writes, or null. */
    private Integer valueOf(int key, int length) {
        for (int i = length - 1; i >= 0; i--) {
            if (history.get(i).key() == key) {
                return history.get(i).value();
            }
        }
        return null;
    }

    private void requireSight() {
        requireSight(-1, history.size());
        for (int s = 0; s < snapshots.length; s++) {
            if (snapshots[s] != null) {
                requireSight(s, snapshots[s]);
                return;
            }
        }
    }

    private void requireSight(int snapshot, int length) {
        int due = -1;
        for (int key = 0; key < keys; key++) {
            Integer value = valueOf(key, length);
            String got = ask("get " + key + " " + snapshot);
            require(got.equals(value == null ? "NoSuchElementException" : value.toString()),
                    "get " + key + " " + snapshot + " answers " + value + ", not " + got);
            if (value != null && key % 2 == 0) {
                int found = number("next " + (key - 1) + " " + snapshot);
                require(found == key, "next " + (key - 1) + " " + snapshot + " answers " + key + ", not " + found);
            }
            due = value != null ? key : due;
        }
        if (due >= 0) {
            require(isThrown(ask("next " + due + " " + snapshot)), "no key with a value is above " + due);
        }
    }

    private void requireTables() {
        int tables = number("count 4");
        int entries = 0;
        int[] before = {-1, -1, -1, -1, -1};
        int[] perLevel = new int[4];
        for (int i = 0; i < tables; i++) {
            int[] facts = new int[5];
            for (int what = 0; what < facts.length; what++) {
                facts[what] = number("table " + i + " " + what);
            }
            requireBehind(before, facts);
            entries += facts[2];
            perLevel[facts[1]]++;
            before = facts;
        }
        require(isThrown(ask("table " + tables + " 0")), "no table is behind the last");
        requireRoom(perLevel, entries);
    }

    /** A table's facts are its number, level, size, least and greatest key. */
    private void requireBehind(int[] before, int[] table) {
        require(table[2] > 0, "a table holds one or more entries");
        require(table[3] <= table[4], "the least key is not above the greatest");
        require(before[1] <= table[1], "tables are ordered by levels");
        if (before[1] == table[1]) {
            require(table[1] == 0 ? before[0] > table[0] : before[4] < table[3],
                    "on level 0 numbers fall, on others no key lies in two ranges, and keys rise");
        }
    }

    private void requireRoom(int[] perLevel, int entries) {
        require(perLevel[0] < 4 && perLevel[1] <= 3 && perLevel[2] <= 5, "nothing is left to tidy");
        require(number("count 5") == 0, "nothing is spoiled, so the store is not stuck");
        int all = entries + number("count 1");
        require(all <= 240, "at most 240 entries are in memory and tables");
        int dropped = number("count 10");
        require(all + dropped == history.size(),
                "of " + history.size() + " written entries there are " + all + ", and " + dropped + " were dropped");
    }
}
