import java.util.ArrayList;
import java.util.Comparator;
import java.util.List;
import java.util.NoSuchElementException;

/**
 * The document once more, said with lists of objects and as near to its words as can be: what
 * ModelTest holds LevelStore against.
 */
final class PlainStore {
    /** GONE is a null value. */
    private record Entry(int key, int number, Integer value) {
    }

    private static final class Block {
        final List<Entry> entries = new ArrayList<>();
        boolean spoiled;
    }

    private static final class Table {
        final int number;
        final int level;
        List<Block> blocks = new ArrayList<>();

        Table(int number, int level, List<Entry> entries) {
            this.number = number;
            this.level = level;
            fill(entries);
        }

        void fill(List<Entry> entries) {
            blocks = new ArrayList<>();
            for (int i = 0; i < entries.size(); i++) {
                if (i % 4 == 0) {
                    blocks.add(new Block());
                }
                blocks.get(i / 4).entries.add(entries.get(i));
            }
        }

        List<Entry> entries() {
            List<Entry> all = new ArrayList<>();
            blocks.forEach(b -> all.addAll(b.entries));
            return all;
        }

        int least() {
            return entries().stream().mapToInt(Entry::key).min().getAsInt();
        }

        int greatest() {
            return entries().stream().mapToInt(Entry::key).max().getAsInt();
        }

        boolean inRange(int key) {
            return least() <= key && key <= greatest();
        }

        boolean spoiled() {
            return blocks.stream().anyMatch(b -> b.spoiled);
        }

        boolean passes(int k) {
            boolean one = entries().stream().map(Entry::key)
                    .anyMatch(j -> (7 * j + 3) % 16 == (7 * k + 3) % 16 || (5 * j + 1) % 16 == (7 * k + 3) % 16);
            boolean two = entries().stream().map(Entry::key)
                    .anyMatch(i -> (7 * i + 3) % 16 == (5 * k + 1) % 16 || (5 * i + 1) % 16 == (5 * k + 1) % 16);
            return one && two;
        }
    }

    private static final Comparator<Entry> ORDER =
            Comparator.comparingInt(Entry::key).thenComparing(Comparator.comparingInt(Entry::number).reversed());

    private List<List<Entry>> log = new ArrayList<>();
    private int synced;
    private List<Table> tables = new ArrayList<>();
    private List<Entry> batch;
    private final Integer[] snapshots = new Integer[4];
    private final int[] pointers = {0, -1, -1};
    private boolean stuck;
    private int latest;
    private int made;
    private int dropped;
    private int reads;
    private int misses;
    private int gets;

    public int put(int key, int value) {
        return add(key, value);
    }

    public int remove(int key) {
        return add(key, null);
    }

    public int open() {
        if (batch != null) {
            throw new IllegalStateException();
        }
        batch = new ArrayList<>();
        return latest;
    }

    public int close(boolean keep) {
        if (batch == null) {
            throw new UnsupportedOperationException();
        }
        if (keep && !batch.isEmpty()) {
            write(batch);
        }
        batch = null;
        return latest;
    }

    public int sync() {
        synced = log.size();
        return synced;
    }

    public int crash(int keep) {
        within(keep, 0, 100);
        batch = null;
        for (int s = 0; s < 4; s++) {
            snapshots[s] = null;
        }
        log = new ArrayList<>(log.subList(0, Math.min(log.size(), synced + keep)));
        synced = log.size();
        latest = allEntries().stream().mapToInt(Entry::number).max().orElse(0);
        return log.size();
    }

    public int flush() {
        if (memory().isEmpty()) {
            throw new UnsupportedOperationException();
        }
        if (stuck && on(0).size() >= 8) {
            throw new IllegalStateException();
        }
        moveDown();
        return tables.size();
    }

    public int get(int key, int snapshot) {
        within(key, 0, 63);
        int upTo = seenBy(snapshot);
        gets++;
        Entry found = look(key, upTo);
        if (found == null || found.value() == null) {
            throw new NoSuchElementException();
        }
        return found.value();
    }

    public int next(int key, int snapshot) {
        within(key, -1, 63);
        int upTo = seenBy(snapshot);
        for (int k = key + 1; k <= 63; k++) {
            Entry newest = newest(allEntries(), k, upTo);
            if (newest != null && newest.value() != null) {
                return k;
            }
        }
        throw new NoSuchElementException();
    }

    public int snapshot() {
        for (int s = 0; s < 4; s++) {
            if (snapshots[s] == null) {
                snapshots[s] = latest;
                return s;
            }
        }
        throw new IllegalStateException();
    }

    public int release(int snapshot) {
        within(snapshot, 0, 3);
        int number = seenBy(snapshot);
        snapshots[snapshot] = null;
        return number;
    }

    public int spoil(int i, int block) {
        within(i, 0, 59);
        within(block, 0, 59);
        if (i >= tables.size() || block >= inOrder().get(i).blocks.size()) {
            throw new IndexOutOfBoundsException();
        }
        Block it = inOrder().get(i).blocks.get(block);
        it.spoiled = true;
        return it.entries.size();
    }

    public int giveUp() {
        int before = allEntries().size();
        for (Table table : tables) {
            table.blocks.removeIf(b -> b.spoiled);
            table.fill(table.entries());
        }
        tables.removeIf(t -> t.blocks.isEmpty());
        int lost = before - allEntries().size();
        stuck = false;
        tidy();
        return lost;
    }

    public double effort() {
        if (gets == 0) {
            throw new ArithmeticException();
        }
        return (double) reads / (double) gets;
    }

    public int table(int i, int what) {
        within(i, 0, 59);
        within(what, 0, 15);
        if (i >= tables.size()) {
            throw new IndexOutOfBoundsException();
        }
        Table table = inOrder().get(i);
        int[] facts = new int[16];
        facts[0] = table.number;
        facts[1] = table.level;
        facts[2] = table.entries().size();
        facts[3] = table.least();
        facts[4] = table.greatest();
        facts[5] = (int) table.blocks.stream().filter(b -> b.spoiled).count();
        for (int j = 0; j < 10 && j < table.entries().size(); j++) {
            facts[6 + j] = table.entries().get(j).number();
        }
        return facts[what];
    }

    public int count(int what) {
        within(what, 0, 16);
        int[] counts = {latest, memory().size(), log.size(), synced, tables.size(), stuck ? 1 : 0, reads, misses,
            gets, made, dropped, on(0).size(), on(1).size(), on(2).size(), on(3).size(), pointers[1], pointers[2]};
        return counts[what];
    }

    private static void within(int number, int least, int greatest) {
        if (number < least || number > greatest) {
            throw new IllegalArgumentException();
        }
    }

    private int seenBy(int snapshot) {
        within(snapshot, -1, 3);
        if (snapshot >= 0 && snapshots[snapshot] == null) {
            throw new UnsupportedOperationException();
        }
        return snapshot < 0 ? latest : snapshots[snapshot];
    }

    private List<Entry> memory() {
        List<Entry> all = new ArrayList<>();
        log.forEach(all::addAll);
        return all;
    }

    private List<Entry> allEntries() {
        List<Entry> all = memory();
        tables.forEach(t -> all.addAll(t.entries()));
        return all;
    }

    private List<Table> on(int level) {
        List<Table> there = new ArrayList<>(tables);
        there.removeIf(t -> t.level != level);
        there.sort(level == 0
                ? Comparator.comparingInt((Table t) -> t.number).reversed()
                : Comparator.comparingInt(Table::least));
        return there;
    }

    private List<Table> inOrder() {
        List<Table> all = new ArrayList<>();
        for (int level = 0; level <= 3; level++) {
            all.addAll(on(level));
        }
        return all;
    }

    private int add(int key, Integer value) {
        within(key, 0, 63);
        if (batch == null) {
            write(List.of(new Entry(key, 0, value)));
            return latest;
        }
        if (batch.size() == 4) {
            throw new UnsupportedOperationException();
        }
        batch.add(new Entry(key, 0, value));
        return batch.size();
    }

    private void write(List<Entry> entries) {
        if (allEntries().size() + entries.size() > 240 || stuck && on(0).size() == 8) {
            throw new IllegalStateException();
        }
        List<Entry> numbered = new ArrayList<>();
        for (Entry e : entries) {
            latest++;
            numbered.add(new Entry(e.key(), latest, e.value()));
        }
        log.add(numbered);
        if (memory().size() >= 8) {
            moveDown();
        }
    }

    private void moveDown() {
        List<Entry> entries = memory();
        entries.sort(ORDER);
        tables.add(new Table(made++, 0, entries));
        log = new ArrayList<>();
        synced = 0;
        if (!stuck) {
            tidy();
        }
    }

    private void tidy() {
        while (true) {
            if (on(0).size() >= 4) {
                if (!merge(on(0), 1)) {
                    return;
                }
            } else if (on(1).size() > 3) {
                if (!mergeOne(1)) {
                    return;
                }
            } else if (on(2).size() > 5) {
                if (!mergeOne(2)) {
                    return;
                }
            } else {
                return;
            }
        }
    }

    private boolean mergeOne(int level) {
        List<Table> there = on(level);
        Table one = there.stream().filter(t -> t.least() > pointers[level]).findFirst().orElse(there.get(0));
        if (!merge(List.of(one), level + 1)) {
            return false;
        }
        pointers[level] = one.greatest();
        return true;
    }

    private boolean merge(List<Table> sources, int level) {
        int least = sources.stream().mapToInt(Table::least).min().getAsInt();
        int greatest = sources.stream().mapToInt(Table::greatest).max().getAsInt();
        List<Table> all = new ArrayList<>(sources);
        for (Table t : on(level)) {
            boolean common = false;
            for (int k = least; k <= greatest; k++) {
                common |= t.inRange(k);
            }
            if (common) {
                all.add(t);
            }
        }
        if (all.stream().anyMatch(Table::spoiled)) {
            stuck = true;
            return false;
        }
        List<Entry> entries = new ArrayList<>();
        all.forEach(t -> entries.addAll(t.entries()));
        entries.sort(ORDER);
        List<Entry> kept = new ArrayList<>(entries);
        kept.removeIf(e -> isDropped(e, entries, level));
        dropped += entries.size() - kept.size();
        tables.removeAll(all);
        addTables(kept, level);
        return true;
    }

    private boolean isDropped(Entry e, List<Entry> among, int level) {
        int oldest = oldest();
        if (among.stream().anyMatch(o -> o.key() == e.key() && o.number() > e.number() && o.number() <= oldest)) {
            return true;
        }
        return e.value() == null && e.number() <= oldest
                && tables.stream().noneMatch(t -> t.level > level && t.inRange(e.key()));
    }

    private int oldest() {
        Integer least = null;
        for (Integer number : snapshots) {
            if (number != null && (least == null || number < least)) {
                least = number;
            }
        }
        return least == null ? latest : least;
    }

    private void addTables(List<Entry> entries, int level) {
        List<Entry> open = new ArrayList<>();
        for (Entry e : entries) {
            if (open.size() >= 6 && open.get(open.size() - 1).key() != e.key()) {
                tables.add(new Table(made++, level, open));
                open = new ArrayList<>();
            }
            open.add(e);
        }
        if (!open.isEmpty()) {
            tables.add(new Table(made++, level, open));
        }
    }

    private static Entry newest(List<Entry> entries, int key, int upTo) {
        return entries.stream().filter(e -> e.key() == key && e.number() <= upTo)
                .max(Comparator.comparingInt(Entry::number)).orElse(null);
    }

    private Entry look(int key, int upTo) {
        Entry found = newest(memory(), key, upTo);
        for (Table table : inOrder()) {
            if (found == null && table.inRange(key)) {
                found = lookIn(table, key, upTo);
            }
        }
        return found;
    }

    private Entry lookIn(Table table, int key, int upTo) {
        if (!table.passes(key)) {
            misses++;
            return null;
        }
        Entry wanted = newest(table.entries(), key, upTo);
        boolean reading = false;
        for (Block block : table.blocks) {
            reading |= block.entries.stream().anyMatch(e -> e.key() >= key);
            if (!reading) {
                continue;
            }
            reads++;
            if (block.spoiled) {
                throw new IllegalStateException();
            }
            if (wanted != null && block.entries.contains(wanted)) {
                return wanted;
            }
            if (block.entries.stream().anyMatch(e -> e.key() > key)) {
                return null;
            }
        }
        return null;
    }
}
