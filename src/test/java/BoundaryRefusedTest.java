import java.util.ArrayList;
import java.util.List;

/**
 * Refused calls, as the last two sentences of "Terms" speak of them: in which order a call throws, and
 * that it changes nothing. The name of a run has the sentence's own words.
 */
public final class BoundaryRefusedTest {
    private static final String ORDER =
            "What is thrown, in this order: IllegalArgumentException: a number out of range; then as the call says";
    private static final String NOTHING = "A call that throws changes nothing, but as said";

    private BoundaryRefusedTest() {
    }

    public static void main(String[] args) {
        rangeBeforeBatch();
        rangeBeforeWriting();
        batchBeforeWriting();
        rangeBeforeSnapshot();
        snapshotBeforeLooking();
        rangeBeforeTable();
        emptyBeforeStuck();
        nothingIsChanged();
        lookingOnlyCounts();
        Run.end("BoundaryRefusedTest");
    }

    private static void rangeBeforeBatch() {
        Run.terms(ORDER, "a key out of range, and four in the batch").calls("""
                open -> 0
                put 0 1 -> 1
                put 0 1 -> 2
                put 0 1 -> 3
                put 0 1 -> 4
                put 64 1 -> IllegalArgumentException
                put -1 1 -> IllegalArgumentException
                remove 64 -> IllegalArgumentException
                remove -1 -> IllegalArgumentException
                put 63 1 -> UnsupportedOperationException
                remove 0 -> UnsupportedOperationException
                """);
    }

    private static void rangeBeforeWriting() {
        String refused = """
                put 64 1 -> IllegalArgumentException
                put -1 1 -> IllegalArgumentException
                remove 64 -> IllegalArgumentException
                remove -1 -> IllegalArgumentException
                put 63 1 -> IllegalStateException
                remove 0 -> IllegalStateException
                """;
        Run.terms(ORDER, "a key out of range, and 240 entries").calls("snapshot -> 0").again(240, "put 9 1")
                .calls(refused);
        Run.terms(ORDER, "a key out of range, and stuck with eight tables").stuck(8).calls(refused);
    }

    private static void batchBeforeWriting() {
        String refused = """
                put 1 1 -> 1
                put 1 1 -> 2
                remove 1 -> 3
                put 1 1 -> 4
                put 1 1 -> UnsupportedOperationException
                remove 1 -> UnsupportedOperationException
                close true -> IllegalStateException
                """;
        Run.terms(ORDER, "four in the batch, and 240 entries").calls("snapshot -> 0").again(240, "put 9 1")
                .due("close true", "UnsupportedOperationException").due("open", 240).calls(refused);
        Run.terms(ORDER, "four in the batch, and stuck with eight tables").stuck(8)
                .due("close true", "UnsupportedOperationException").due("open", 64).calls(refused);
    }

    private static void rangeBeforeSnapshot() {
        Run.terms(ORDER, "a key out of range, and a free snapshot").calls("""
                get 64 0 -> IllegalArgumentException
                get -1 3 -> IllegalArgumentException
                next 64 0 -> IllegalArgumentException
                next -2 3 -> IllegalArgumentException
                get 63 0 -> UnsupportedOperationException
                get 0 3 -> UnsupportedOperationException
                next 63 0 -> UnsupportedOperationException
                next -1 3 -> UnsupportedOperationException
                release 4 -> IllegalArgumentException
                release -1 -> IllegalArgumentException
                release 3 -> UnsupportedOperationException
                """);
    }

    private static void snapshotBeforeLooking() {
        Run.terms(ORDER, "a free snapshot, and a spoiled block or none that is found").flushed(1, 9).calls("""
                spoil 0 0 -> 1
                get 9 0 -> UnsupportedOperationException
                get 8 0 -> UnsupportedOperationException
                next 9 0 -> UnsupportedOperationException
                get 9 4 -> IllegalArgumentException
                get 64 -1 -> IllegalArgumentException
                next 63 4 -> IllegalArgumentException
                get 9 -1 -> IllegalStateException
                get 8 -1 -> NoSuchElementException
                next 9 -1 -> NoSuchElementException
                """);
    }

    private static void rangeBeforeTable() {
        Run.terms(ORDER, "a number out of range, and no such table").calls("""
                spoil 60 0 -> IllegalArgumentException
                spoil 0 60 -> IllegalArgumentException
                spoil -1 0 -> IllegalArgumentException
                spoil 59 -1 -> IllegalArgumentException
                spoil 59 59 -> IndexOutOfBoundsException
                spoil 0 0 -> IndexOutOfBoundsException
                table 60 0 -> IllegalArgumentException
                table 0 16 -> IllegalArgumentException
                table -1 0 -> IllegalArgumentException
                table 59 -1 -> IllegalArgumentException
                table 59 15 -> IndexOutOfBoundsException
                table 0 0 -> IndexOutOfBoundsException
                """);
    }

    private static void emptyBeforeStuck() {
        Run.terms(ORDER, "memory is empty, and stuck with eight tables").stuck(8)
                .due("flush", "UnsupportedOperationException");
    }

    /* States that have something of everything that a refused call could spoil. */

    private static List<String> filled() {
        return List.of("put 9 1", "flush", "put 9 2", "put 10 3", "snapshot", "flush", "put 8 4", "flush", "put 7 5",
                "flush", "put 9 6", "snapshot", "flush", "spoil 0 0", "get 9 0", "put 1 1", "put 2 2", "sync", "put 3 3");
    }

    private static List<String> withBatch(List<String> calls, int entries) {
        List<String> all = new ArrayList<>(calls);
        all.add("open");
        for (int i = 0; i < entries; i++) {
            all.add("put " + (20 + i) + " " + i);
        }
        return all;
    }

    private static List<String> full() {
        List<String> calls = new ArrayList<>(List.of("snapshot", "put 9 0", "flush"));
        for (int i = 0; i < 239; i++) {
            calls.add("put 9 " + i);
        }
        return calls;
    }

    private static List<String> blocked() {
        List<String> calls = new ArrayList<>(List.of("snapshot"));
        for (int i = 0; i < 64; i++) {
            calls.add("put " + i % 8 + " " + i);
            if (i == 7) {
                calls.add("spoil 0 1");
            }
        }
        return calls;
    }

    private static void nothingIsChanged() {
        List<String> ranges = List.of("put 64 1", "put -1 1", "remove 64", "remove -1", "crash -1", "crash 101",
                "get 64 -1", "get -1 0", "get 9 -2", "get 9 4", "next 64 0", "next -2 0", "next 9 4", "next 9 -2",
                "release -1", "release 4", "spoil 60 0", "spoil 0 60", "spoil -1 0", "spoil 0 -1", "table 60 0",
                "table 0 16", "table -1 0", "table 0 -1", "count -1", "count 17");
        for (String call : ranges) {
            refused(filled(), call, "IllegalArgumentException");
            refused(withBatch(filled(), 4), call, "IllegalArgumentException");
        }
        for (String call : List.of("get 9 2", "next 9 3", "release 2", "close true", "close false")) {
            refused(filled(), call, "UnsupportedOperationException");
        }
        for (String call : List.of("spoil 5 0", "spoil 0 1", "spoil 59 59", "table 5 0", "table 59 15")) {
            refused(filled(), call, "IndexOutOfBoundsException");
        }
        for (String call : List.of("put 9 1", "remove 9")) {
            refused(withBatch(filled(), 4), call, "UnsupportedOperationException");
            refused(full(), call, "IllegalStateException");
            refused(blocked(), call, "IllegalStateException");
        }
        for (int entries = 0; entries <= 4; entries++) {
            refused(withBatch(filled(), entries), "open", "IllegalStateException");
        }
        refused(withBatch(full(), 1), "close true", "IllegalStateException");
        refused(withBatch(blocked(), 4), "close true", "IllegalStateException");
        refused(blocked(), "flush", "UnsupportedOperationException");
        refused(List.of("put 1 1", "snapshot", "snapshot", "snapshot", "put 1 2", "snapshot", "put 1 3"), "snapshot",
                "IllegalStateException");
        refused(List.of("put 1 1", "next -1 -1"), "effort", "ArithmeticException");
        refused(filled(), "next 10 -1", "NoSuchElementException");
    }

    /** The same calls on two stores, but one makes the refused call: no answer behind it may differ. */
    private static void refused(List<String> before, String call, String exception) {
        Run run = Run.terms(NOTHING, "behind " + before.size() + " calls: " + call);
        LevelStore with = after(before);
        LevelStore without = after(before);
        String thrown = Caller.answer(with, call);
        if (!thrown.equals(exception)) {
            run.tell("answered " + thrown + ", due is " + exception);
        }
        for (String probe : probes(without)) {
            String got = Caller.answer(with, probe);
            String due = Caller.answer(without, probe);
            if (!got.equals(due)) {
                run.tell(probe + " answered " + got + " behind it, due is " + due);
            }
        }
    }

    private static LevelStore after(List<String> calls) {
        LevelStore store = new LevelStore();
        for (String call : calls) {
            Caller.answer(store, call);
        }
        return store;
    }

    /** First calls that only tell, then some that show batch, snapshots and log by changing them. */
    private static List<String> probes(LevelStore store) {
        List<String> calls = new ArrayList<>(tellings(store));
        for (int snapshot = -1; snapshot <= 3; snapshot++) {
            calls.add("next -1 " + snapshot);
            calls.add("get 9 " + snapshot);
        }
        calls.add("effort");
        calls.addAll(List.of("put 30 1", "close true", "count 0", "count 1", "count 2", "count 3", "release 0",
                "release 1", "release 2", "release 3", "crash 1", "count 0", "count 1", "flush", "giveUp", "count 9",
                "count 10"));
        return calls;
    }

    private static List<String> tellings(LevelStore store) {
        List<String> calls = new ArrayList<>();
        for (int what = 0; what <= 16; what++) {
            calls.add("count " + what);
        }
        for (int i = 0; i < store.count(4); i++) {
            for (int what = 0; what <= 15; what++) {
                calls.add("table " + i + " " + what);
            }
        }
        return calls;
    }

    private static void lookingOnlyCounts() {
        String counted = """
                count 0 -> 5
                count 1 -> 0
                count 2 -> 0
                count 4 -> 1
                count 5 -> 0
                count 9 -> 1
                count 10 -> 0
                table 0 5 -> 1
                table 0 2 -> 5
                """;
        Run.terms(NOTHING, "what get counts is said").flushed(1, 1, 2, 3, 4, 5).due("spoil 0 1", 1).calls(counted)
                .calls("""
                get 5 -1 -> IllegalStateException
                get 6 -1 -> NoSuchElementException
                """).calls(counted).calls("""
                count 6 -> 1
                count 7 -> 0
                count 8 -> 2
                """);
    }
}
