import java.util.Arrays;
import java.util.NoSuchElementException;

/** A store of keys in levels: a log, memory, tables with blocks and filters, merging downward. */
public final class LevelStore {
    private static final int KEYS = 64;
    private static final int MOST_ENTRIES = 240;
    private static final int MOST_IN_RECORD = 4;
    private static final int FULL_MEMORY = 8;
    private static final int BLOCK_SIZE = 4;
    private static final int FULL_TABLE = 6;
    private static final int LEVELS = 4;
    private static final int FULL_LEVEL_0 = 4;
    private static final int MOST_ON_LEVEL_0 = 8;
    private static final int SNAPSHOTS = 4;
    private static final int MOST_KEPT = 100;
    private static final int LAST_TABLE = 59;
    private static final int LAST_BLOCK = 59;
    private static final int LAST_TABLE_FACT = 15;
    private static final int LAST_COUNT = 16;
    private static final int NONE = -1;
    private static final int FREE = -1;

    /* Ranges on a level share no key, so 64 tables of level 1 and 64 of level 2 are the most to merge. */
    private static final int MOST_MERGES = 1000;

    private final Memory memory = new Memory();
    private final Levels levels = new Levels();
    /** The open batch; without one, the one entry that is being written. */
    private final Entries pending = new Entries(MOST_IN_RECORD);
    private final int[] snapshots = new int[SNAPSHOTS];
    private boolean batchOpen;
    private int latest;
    private int reads;
    private int misses;
    private int gets;

    public LevelStore() {
        Arrays.fill(snapshots, FREE);
    }

    public int put(int key, int value)
            throws IllegalArgumentException, IllegalStateException, UnsupportedOperationException {
        addToPending(key, value, false);
        return batchOpen ? pending.size : write();
    }

    public int remove(int key)
            throws IllegalArgumentException, IllegalStateException, UnsupportedOperationException {
        addToPending(key, 0, true);
        return batchOpen ? pending.size : write();
    }

    public int open() throws IllegalStateException {
        if (batchOpen) {
            throw new IllegalStateException();
        }
        pending.size = 0;
        batchOpen = true;
        return latest;
    }

    public int close(boolean keep) throws IllegalStateException, UnsupportedOperationException {
        if (!batchOpen) {
            throw new UnsupportedOperationException();
        }
        if (keep && pending.size > 0) {
            write();
        }
        batchOpen = false;
        return latest;
    }

    public int sync() {
        memory.synced = memory.records;
        return memory.synced;
    }

    public int crash(int keep) throws IllegalArgumentException {
        requireWithin(keep, 0, MOST_KEPT);
        batchOpen = false;
        Arrays.fill(snapshots, FREE);
        memory.loseAllBut(memory.synced + keep);
        latest = Math.max(memory.rows.greatestNumber(), levels.shelf.rows.greatestNumber());
        return memory.records;
    }

    public int flush() throws IllegalStateException, UnsupportedOperationException {
        if (memory.rows.size == 0) {
            throw new UnsupportedOperationException();
        }
        if (levels.isBlocked()) {
            throw new IllegalStateException();
        }
        moveMemoryToLevel0();
        levels.tidy(oldest());
        return levels.shelf.tables;
    }

    public int get(int key, int snapshot)
            throws IllegalArgumentException, IllegalStateException, UnsupportedOperationException,
                    NoSuchElementException {
        requireWithin(key, 0, KEYS - 1);
        int upTo = numberSeenBy(snapshot);
        gets++;
        int row = memory.rowOf(key, upTo);
        if (row != NONE) {
            return valueIn(memory.rows, row);
        }
        row = lookInTables(key, upTo);
        if (row == NONE) {
            throw new NoSuchElementException();
        }
        return valueIn(levels.shelf.rows, row);
    }

    public int next(int key, int snapshot)
            throws IllegalArgumentException, UnsupportedOperationException, NoSuchElementException {
        requireWithin(key, -1, KEYS - 1);
        int upTo = numberSeenBy(snapshot);
        for (int k = key + 1; k < KEYS; k++) {
            if (hasValue(k, upTo)) {
                return k;
            }
        }
        throw new NoSuchElementException();
    }

    public int snapshot() throws IllegalStateException {
        for (int s = 0; s < SNAPSHOTS; s++) {
            if (snapshots[s] == FREE) {
                snapshots[s] = latest;
                return s;
            }
        }
        throw new IllegalStateException();
    }

    public int release(int snapshot) throws IllegalArgumentException, UnsupportedOperationException {
        requireWithin(snapshot, 0, SNAPSHOTS - 1);
        int number = numberSeenBy(snapshot);
        snapshots[snapshot] = FREE;
        return number;
    }

    public int spoil(int i, int block) throws IllegalArgumentException, IndexOutOfBoundsException {
        requireWithin(i, 0, LAST_TABLE);
        requireWithin(block, 0, LAST_BLOCK);
        if (i >= levels.shelf.tables || block >= levels.shelf.blocksOf(i)) {
            throw new IndexOutOfBoundsException();
        }
        return levels.shelf.spoilBlock(i, block);
    }

    public int giveUp() {
        int lost = levels.loseSpoiled();
        levels.tidy(oldest());
        return lost;
    }

    public double effort() throws ArithmeticException {
        if (gets == 0) {
            throw new ArithmeticException();
        }
        return (double) reads / gets;
    }

    public int table(int i, int what) throws IllegalArgumentException, IndexOutOfBoundsException {
        requireWithin(i, 0, LAST_TABLE);
        requireWithin(what, 0, LAST_TABLE_FACT);
        Shelf shelf = levels.shelf;
        if (i >= shelf.tables) {
            throw new IndexOutOfBoundsException();
        }
        switch (what) {
            case 0:
                return shelf.numbers[i];
            case 1:
                return shelf.levelOf[i];
            case 2:
                return shelf.sizeOf(i);
            case 3:
                return shelf.leastKey(i);
            case 4:
                return shelf.greatestKey(i);
            case 5:
                return shelf.spoiledBlocksOf(i);
            default:
                return shelf.entryNumber(i, what - 6);
        }
    }

    public int count(int what) throws IllegalArgumentException {
        requireWithin(what, 0, LAST_COUNT);
        switch (what) {
            case 0:
                return latest;
            case 1:
                return memory.rows.size;
            case 2:
                return memory.records;
            case 3:
                return memory.synced;
            case 4:
                return levels.shelf.tables;
            case 5:
                return levels.stuck ? 1 : 0;
            case 6:
                return reads;
            case 7:
                return misses;
            case 8:
                return gets;
            case 9:
                return levels.made;
            case 10:
                return levels.dropped;
            case 15:
                return levels.pointers[1];
            case 16:
                return levels.pointers[2];
            default:
                return levels.shelf.tablesOn(what - 11);
        }
    }

    private static void requireWithin(int number, int least, int greatest) {
        if (number < least || number > greatest) {
            throw new IllegalArgumentException();
        }
    }

    /** The number up to which a snapshot, or -1 for none, sees entries. */
    private int numberSeenBy(int snapshot) {
        requireWithin(snapshot, -1, SNAPSHOTS - 1);
        if (snapshot < 0) {
            return latest;
        }
        if (snapshots[snapshot] == FREE) {
            throw new UnsupportedOperationException();
        }
        return snapshots[snapshot];
    }

    private int oldest() {
        int oldest = latest;
        for (int s = 0; s < SNAPSHOTS; s++) {
            if (snapshots[s] != FREE) {
                oldest = Math.min(oldest, snapshots[s]);
            }
        }
        return oldest;
    }

    private void addToPending(int key, int value, boolean isGone) {
        requireWithin(key, 0, KEYS - 1);
        if (!batchOpen) {
            pending.size = 0;
        }
        if (pending.size >= MOST_IN_RECORD) {
            throw new UnsupportedOperationException();
        }
        // An entry gets its number when its record is written, as a batch may never be.
        pending.add(key, 0, value, isGone);
    }

    /** Writes a record of the pending entries and answers the latest number then. */
    private int write() {
        int entries = memory.rows.size + levels.shelf.rows.size + pending.size;
        if (entries > MOST_ENTRIES || levels.isBlocked()) {
            throw new IllegalStateException();
        }
        memory.addRecord(pending, latest);
        latest += pending.size;
        if (memory.rows.size >= FULL_MEMORY) {
            moveMemoryToLevel0();
            levels.tidy(oldest());
        }
        return latest;
    }

    private void moveMemoryToLevel0() {
        levels.addToLevel0(memory.rows);
        memory.clear();
    }

    private static int valueIn(Entries entries, int row) {
        if (entries.gone[row]) {
            throw new NoSuchElementException();
        }
        return entries.values[row];
    }

    private int lookInTables(int key, int upTo) {
        for (int i = 0; i < levels.shelf.tables; i++) {
            if (levels.shelf.spans(i, key)) {
                int row = lookInTable(i, key, upTo);
                if (row != NONE) {
                    return row;
                }
            }
        }
        return NONE;
    }

    private int lookInTable(int i, int key, int upTo) {
        Shelf shelf = levels.shelf;
        if (!shelf.passes(i, key)) {
            misses++;
            return NONE;
        }
        int end = shelf.bounds[i + 1];
        for (int start = shelf.firstBlockFor(i, key); start < end; start += BLOCK_SIZE) {
            reads++;
            if (shelf.rows.spoiled[start]) {
                throw new IllegalStateException();
            }
            int blockEnd = Math.min(start + BLOCK_SIZE, end);
            int row = shelf.rows.rowOf(key, upTo, start, blockEnd);
            if (row != NONE || shelf.rows.keys[blockEnd - 1] > key) {
                return row;
            }
        }
        return NONE;
    }

    /** Whether get would find a value if nothing were spoiled; unlike get it counts nothing. */
    private boolean hasValue(int key, int upTo) {
        int row = memory.rowOf(key, upTo);
        if (row != NONE) {
            return !memory.rows.gone[row];
        }
        Shelf shelf = levels.shelf;
        for (int i = 0; i < shelf.tables; i++) {
            if (shelf.spans(i, key)) {
                row = shelf.rows.rowOf(key, upTo, shelf.bounds[i], shelf.bounds[i + 1]);
                if (row != NONE) {
                    return !shelf.rows.gone[row];
                }
            }
        }
        return false;
    }

    /** Rows of entries; a row is marked as spoiled if the block that it stands in is. */
    private static final class Entries {
        final int[] keys;
        final int[] numbers;
        final int[] values;
        final boolean[] gone;
        final boolean[] spoiled;
        int size;

        Entries(int most) {
            keys = new int[most];
            numbers = new int[most];
            values = new int[most];
            gone = new boolean[most];
            spoiled = new boolean[most];
        }

        void add(int key, int number, int value, boolean isGone) {
            keys[size] = key;
            numbers[size] = number;
            values[size] = value;
            gone[size] = isGone;
            spoiled[size] = false;
            size++;
        }

        void addFrom(Entries other, int row) {
            keys[size] = other.keys[row];
            numbers[size] = other.numbers[row];
            values[size] = other.values[row];
            gone[size] = other.gone[row];
            spoiled[size] = other.spoiled[row];
            size++;
        }

        int greatestNumber() {
            int greatest = 0;
            for (int row = 0; row < size; row++) {
                greatest = Math.max(greatest, numbers[row]);
            }
            return greatest;
        }

        /** The first row of that key with a number not above the given one, or NONE. */
        int rowOf(int key, int upTo, int from, int to) {
            for (int row = from; row < to; row++) {
                if (keys[row] == key && numbers[row] <= upTo) {
                    return row;
                }
            }
            return NONE;
        }
    }

    /** Memory and log as one: memory always holds just the entries of the log's records. */
    private static final class Memory {
        final Entries rows = new Entries(FULL_MEMORY + MOST_IN_RECORD);
        private final int[] recordEnds = new int[FULL_MEMORY + 1];
        int records;
        int synced;

        void addRecord(Entries record, int latest) {
            for (int row = 0; row < record.size; row++) {
                rows.add(record.keys[row], latest + 1 + row, record.values[row], record.gone[row]);
            }
            records++;
            recordEnds[records] = rows.size;
        }

        void clear() {
            rows.size = 0;
            records = 0;
            synced = 0;
        }

        void loseAllBut(int keep) {
            records = Math.min(records, keep);
            rows.size = recordEnds[records];
            synced = records;
        }

        /** The newest row of that key with a number not above the given one, or NONE. */
        int rowOf(int key, int upTo) {
            for (int row = rows.size - 1; row >= 0; row--) {
                if (rows.keys[row] == key && rows.numbers[row] <= upTo) {
                    return row;
                }
            }
            return NONE;
        }
    }

    /** All tables with their entries, in the order in which the document counts tables. */
    private static final class Shelf {
        final Entries rows = new Entries(MOST_ENTRIES);
        final int[] numbers = new int[MOST_ENTRIES];
        final int[] levelOf = new int[MOST_ENTRIES];
        /** Table i has the rows from bounds[i] to before bounds[i + 1]. */
        final int[] bounds = new int[MOST_ENTRIES + 1];
        int tables;

        void clear() {
            rows.size = 0;
            tables = 0;
        }

        /** Whether rows were added behind the last table. */
        boolean hasLooseRows() {
            return rows.size > bounds[tables];
        }

        /** Makes the rows added behind the last table a table. */
        void endTable(int number, int level) {
            numbers[tables] = number;
            levelOf[tables] = level;
            tables++;
            bounds[tables] = rows.size;
        }

        void addTable(Shelf other, int i) {
            for (int row = other.bounds[i]; row < other.bounds[i + 1]; row++) {
                rows.addFrom(other.rows, row);
            }
            endTable(other.numbers[i], other.levelOf[i]);
        }

        int sizeOf(int i) {
            return bounds[i + 1] - bounds[i];
        }

        int leastKey(int i) {
            return rows.keys[bounds[i]];
        }

        int greatestKey(int i) {
            return rows.keys[bounds[i + 1] - 1];
        }

        boolean spans(int i, int key) {
            return rows.keys[bounds[i]] <= key && rows.keys[bounds[i + 1] - 1] >= key;
        }

        boolean meets(int i, int least, int greatest) {
            return leastKey(i) <= greatest && greatestKey(i) >= least;
        }

        int entryNumber(int i, int entry) {
            return entry < sizeOf(i) ? rows.numbers[bounds[i] + entry] : 0;
        }

        int blocksOf(int i) {
            return (sizeOf(i) + BLOCK_SIZE - 1) / BLOCK_SIZE;
        }

        int spoiledBlocksOf(int i) {
            int blocks = 0;
            for (int start = bounds[i]; start < bounds[i + 1]; start += BLOCK_SIZE) {
                if (rows.spoiled[start]) {
                    blocks++;
                }
            }
            return blocks;
        }

        /** Answers how many entries the block has. */
        int spoilBlock(int i, int block) {
            int start = bounds[i] + block * BLOCK_SIZE;
            int end = Math.min(start + BLOCK_SIZE, bounds[i + 1]);
            for (int row = start; row < end; row++) {
                rows.spoiled[row] = true;
            }
            return end - start;
        }

        /** The first row of the first block of table i that has a key not below the given one. */
        int firstBlockFor(int i, int key) {
            int row = bounds[i];
            while (row < bounds[i + 1] && rows.keys[row] < key) {
                row++;
            }
            return row - (row - bounds[i]) % BLOCK_SIZE;
        }

        boolean passes(int i, int key) {
            int first = firstMark(key);
            int second = secondMark(key);
            boolean hasFirst = false;
            boolean hasSecond = false;
            for (int row = bounds[i]; row < bounds[i + 1]; row++) {
                int one = firstMark(rows.keys[row]);
                int other = secondMark(rows.keys[row]);
                hasFirst = hasFirst || one == first || other == first;
                hasSecond = hasSecond || one == second || other == second;
            }
            return hasFirst && hasSecond;
        }

        private static int firstMark(int key) {
            return (7 * key + 3) % 16;
        }

        private static int secondMark(int key) {
            return (5 * key + 1) % 16;
        }

        int tablesOn(int level) {
            int there = 0;
            for (int i = 0; i < tables; i++) {
                if (levelOf[i] == level) {
                    there++;
                }
            }
            return there;
        }

        /** A level's first table with all keys above the given one, else its first, else NONE. */
        int firstAbove(int level, int key) {
            int first = NONE;
            for (int i = 0; i < tables; i++) {
                if (levelOf[i] == level) {
                    if (leastKey(i) > key) {
                        return i;
                    }
                    first = first == NONE ? i : first;
                }
            }
            return first;
        }

        /** Where tables of a level with keys up to the given one end in the order of all tables. */
        int placeBehind(int level, int key) {
            int i = 0;
            while (i < tables && (levelOf[i] < level || levelOf[i] == level && leastKey(i) <= key)) {
                i++;
            }
            return i;
        }
    }

    /** Brings entries into order by one stable pass over their keys. */
    private static final class Sorter {
        final Entries loose = new Entries(MOST_ENTRIES);
        private final int[] places = new int[KEYS + 1];
        private final int[] order = new int[MOST_ENTRIES];

        /** Adds the loose entries to the target by rising keys, those of one key as they stand. */
        void addSorted(Entries target) {
            Arrays.fill(places, 0);
            for (int row = 0; row < loose.size; row++) {
                places[loose.keys[row] + 1]++;
            }
            for (int key = 0; key < KEYS; key++) {
                places[key + 1] += places[key];
            }
            for (int row = 0; row < loose.size; row++) {
                int key = loose.keys[row];
                order[places[key]] = row;
                places[key]++;
            }
            for (int place = 0; place < loose.size; place++) {
                target.addFrom(loose, order[place]);
            }
        }
    }

    /** The tables on their levels, and how they are made and merged downward. */
    private static final class Levels {
        Shelf shelf = new Shelf();
        /** Where the next state of the shelf is laid out before the two change places. */
        private Shelf spare = new Shelf();
        private final Sorter sorter = new Sorter();
        private final Entries merged = new Entries(MOST_ENTRIES);
        private final boolean[] joining = new boolean[MOST_ENTRIES];
        /** By level; nothing asks for that of level 0, which is always merged whole. */
        final int[] pointers = {NONE, NONE, NONE};
        boolean stuck;
        int made;
        int dropped;

        boolean isBlocked() {
            return stuck && shelf.tablesOn(0) >= MOST_ON_LEVEL_0;
        }

        void addToLevel0(Entries memory) {
            sorter.loose.size = 0;
            // Backwards, since the sorter keeps the order of one key's entries and newer ones go first.
            for (int row = memory.size - 1; row >= 0; row--) {
                sorter.loose.addFrom(memory, row);
            }
            spare.clear();
            sorter.addSorted(spare.rows);
            endNewTable(0);
            for (int i = 0; i < shelf.tables; i++) {
                spare.addTable(shelf, i);
            }
            changeShelf();
        }

        /** Answers how many entries were lost. */
        int loseSpoiled() {
            spare.clear();
            for (int i = 0; i < shelf.tables; i++) {
                for (int row = shelf.bounds[i]; row < shelf.bounds[i + 1]; row++) {
                    if (!shelf.rows.spoiled[row]) {
                        spare.rows.addFrom(shelf.rows, row);
                    }
                }
                if (spare.hasLooseRows()) {
                    spare.endTable(shelf.numbers[i], shelf.levelOf[i]);
                }
            }
            int lost = shelf.rows.size - spare.rows.size;
            changeShelf();
            stuck = false;
            return lost;
        }

        /** Does nothing while the store is stuck. */
        void tidy(int oldest) {
            int level = fullLevel();
            for (int merges = 0; merges < MOST_MERGES && level != NONE && !stuck; merges++) {
                int from = level == 0 ? 0 : shelf.firstAbove(level, pointers[level]);
                int to = level == 0 ? shelf.tablesOn(0) : from + 1;
                merge(from, to, level + 1, oldest);
                level = fullLevel();
            }
        }

        /** The level that is due to be merged downward, or NONE. */
        private int fullLevel() {
            if (shelf.tablesOn(0) >= FULL_LEVEL_0) {
                return 0;
            }
            for (int level = 1; level < LEVELS - 1; level++) {
                if (shelf.tablesOn(level) > 2 * level + 1) {
                    return level;
                }
            }
            return NONE;
        }

        /** Merges tables from .. to - 1 to a level; does nothing if that leaves the store stuck. */
        private void merge(int from, int to, int level, int oldest) {
            int least = KEYS;
            int greatest = NONE;
            for (int i = from; i < to; i++) {
                least = Math.min(least, shelf.leastKey(i));
                greatest = Math.max(greatest, shelf.greatestKey(i));
            }
            for (int i = 0; i < shelf.tables; i++) {
                boolean met = shelf.levelOf[i] == level && shelf.meets(i, least, greatest);
                joining[i] = met || i >= from && i < to;
                stuck = stuck || joining[i] && shelf.spoiledBlocksOf(i) > 0;
            }
            if (stuck) {
                return;
            }
            sortJoining();
            int place = shelf.placeBehind(level, greatest);
            spare.clear();
            addStaying(0, place);
            addMerged(level, oldest);
            addStaying(place, shelf.tables);
            changeShelf();
            pointers[level - 1] = greatest;
        }

        private void sortJoining() {
            sorter.loose.size = 0;
            // Tables with newer entries of a key stand before those with older ones, so this keeps the order.
            for (int i = 0; i < shelf.tables; i++) {
                for (int row = shelf.bounds[i]; joining[i] && row < shelf.bounds[i + 1]; row++) {
                    sorter.loose.addFrom(shelf.rows, row);
                }
            }
            merged.size = 0;
            sorter.addSorted(merged);
        }

        private void addStaying(int from, int to) {
            for (int i = from; i < to; i++) {
                if (!joining[i]) {
                    spare.addTable(shelf, i);
                }
            }
        }

        private void addMerged(int level, int oldest) {
            int lastKey = NONE;
            for (int row = 0; row < merged.size; row++) {
                int key = merged.keys[row];
                if (isOutdated(row, oldest) || isNeedless(row, level, oldest)) {
                    dropped++;
                    continue;
                }
                int size = spare.rows.size - spare.bounds[spare.tables];
                if (size >= FULL_TABLE && key != lastKey) {
                    endNewTable(level);
                }
                spare.rows.addFrom(merged, row);
                lastKey = key;
            }
            if (spare.hasLooseRows()) {
                endNewTable(level);
            }
        }

        private boolean isOutdated(int row, int oldest) {
            // The entry just before has the least greater number of the key, so it alone decides.
            return row > 0 && merged.keys[row - 1] == merged.keys[row] && merged.numbers[row - 1] <= oldest;
        }

        /** Whether an entry is gone for every snapshot and no deeper table may hold what it hides. */
        private boolean isNeedless(int row, int level, int oldest) {
            if (!merged.gone[row] || merged.numbers[row] > oldest) {
                return false;
            }
            for (int i = 0; i < shelf.tables; i++) {
                if (shelf.levelOf[i] > level && shelf.spans(i, merged.keys[row])) {
                    return false;
                }
            }
            return true;
        }

        private void endNewTable(int level) {
            spare.endTable(made, level);
            made++;
        }

        private void changeShelf() {
            Shelf old = shelf;
            shelf = spare;
            spare = old;
        }
    }
}
