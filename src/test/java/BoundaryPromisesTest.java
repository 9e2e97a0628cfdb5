/**
 * A run for each edge that a promise's own sentences name. The name of a run has the number of the
 * promise and the sentence's own words.
 */
public final class BoundaryPromisesTest {
    private static final String BATCH_OF_FOUR = """
            put 1 1 -> 1
            put 2 2 -> 2
            put 3 3 -> 3
            put 4 4 -> 4
            """;

    private BoundaryPromisesTest() {
    }

    public static void main(String[] args) {
        newObject();
        putKeys();
        putWrites();
        putIntoBatch();
        putAnswers();
        removeKeys();
        removeAsPut();
        removeWhatIsNotThere();
        openTwice();
        openIsEmpty();
        openAnswers();
        closeWithoutBatch();
        closeKeeps();
        closeStaysOpen();
        closeLeavesNone();
        closeAnswers();
        sync();
        crashKeep();
        crashBatchAndSnapshots();
        crashLeavesRecords();
        crashNumbers();
        crashSyncs();
        crashAnswers();
        flushEmpty();
        flushTidies();
        flushWhileStuck();
        flushAnswers();
        getSnapshots();
        getFreeSnapshot();
        getLatest();
        getCounts();
        getNone();
        nextKeys();
        nextAsGet();
        nextCountsNothing();
        nextSnapshots();
        nextNone();
        snapshotNoneFree();
        snapshotLeastFree();
        releaseRange();
        releaseFree();
        releaseAnswers();
        spoilRange();
        spoilOrder();
        spoilNoSuch();
        spoilAnswers();
        giveUpAll();
        giveUpRest();
        giveUpNotStuck();
        giveUpAnswers();
        effort();
        tableFacts();
        tableEntries();
        tableNoSuch();
        tableRange();
        countRange();
        countStuck();
        countLevels();
        countPointers();
        Run.end("BoundaryPromisesTest");
    }

    private static void newObject() {
        Run run = Run.promise(1, "Empty.", "nothing is there, nothing has been counted");
        for (int what = 0; what <= 14; what++) {
            run.due("count " + what, 0);
        }
        run.calls("""
                count 15 -> -1
                count 16 -> -1
                sync -> 0
                giveUp -> 0
                crash 100 -> 0
                next -1 -1 -> NoSuchElementException
                table 0 0 -> IndexOutOfBoundsException
                spoil 0 0 -> IndexOutOfBoundsException
                flush -> UnsupportedOperationException
                close false -> UnsupportedOperationException
                close true -> UnsupportedOperationException
                release 0 -> UnsupportedOperationException
                effort -> ArithmeticException
                """);
        Run keys = Run.promise(1, "Empty.", "no key has a value");
        for (int key = 0; key <= 63; key++) {
            keys.due("get " + key + " -1", "NoSuchElementException");
        }
        keys.calls("""
                count 6 -> 0
                count 7 -> 0
                count 8 -> 64
                """);
    }

    private static void putKeys() {
        Run.promise(2, "key 0 .. 63 (so for all)", "put").calls("""
                put -1 5 -> IllegalArgumentException
                put 64 5 -> IllegalArgumentException
                put -2147483648 5 -> IllegalArgumentException
                put 2147483647 5 -> IllegalArgumentException
                count 0 -> 0
                put 0 5 -> 1
                put 63 6 -> 2
                get 0 -1 -> 5
                get 63 -1 -> 6
                """);
        Run.promise(2, "key 0 .. 63 (so for all)", "put into a batch").calls("""
                open -> 0
                put -1 5 -> IllegalArgumentException
                put 64 5 -> IllegalArgumentException
                put 0 5 -> 1
                put 63 6 -> 2
                close true -> 2
                """);
        Run.promise(2, "key 0 .. 63 (so for all)", "get").calls("""
                get -1 -1 -> IllegalArgumentException
                get 64 -1 -> IllegalArgumentException
                get -2147483648 -1 -> IllegalArgumentException
                get 2147483647 -1 -> IllegalArgumentException
                get 0 -1 -> NoSuchElementException
                get 63 -1 -> NoSuchElementException
                """);
    }

    private static void putWrites() {
        String words = "A RECORD of that ENTRY is WRITTEN";
        Run.promise(2, words, "the store is full").due("snapshot", 0).again(239, "put 9 1").calls("""
                put 63 7 -> 240
                put 0 7 -> IllegalStateException
                count 0 -> 240
                get 63 -1 -> 7
                get 0 -1 -> NoSuchElementException
                """);
        Run.promise(2, words, "the store is stuck with eight tables").stuck(7).puts(0, 6).calls("""
                put 9 7 -> 64
                put 8 7 -> IllegalStateException
                count 0 -> 64
                count 2 -> 0
                get 9 -1 -> 7
                get 8 -1 -> NoSuchElementException
                """).levels(8, 0, 0, 0);
        Run.promise(2, words, "one record for each").puts(1, 7).due("count 2", 7).due("count 1", 7);
    }

    private static void putIntoBatch() {
        String words = "but with a BATCH open it is put there, 4 there: UnsupportedOperationException";
        Run.promise(2, words, "the fourth and the fifth").due("open", 0).calls(BATCH_OF_FOUR).calls("""
                put 5 5 -> UnsupportedOperationException
                put 1 9 -> UnsupportedOperationException
                count 0 -> 0
                count 1 -> 0
                count 2 -> 0
                close true -> 4
                get 1 -1 -> 1
                get 4 -1 -> 4
                get 5 -1 -> NoSuchElementException
                put 5 5 -> 5
                """);
        Run.promise(2, words, "though the store is full").due("snapshot", 0).again(240, "put 9 1").due("open", 240)
                .calls(BATCH_OF_FOUR).due("put 5 5", "UnsupportedOperationException");
        Run.promise(2, words, "though the store is stuck with eight tables").stuck(8).due("open", 64)
                .calls(BATCH_OF_FOUR).due("put 5 5", "UnsupportedOperationException");
    }

    private static void putAnswers() {
        String words = "Answers its NUMBER, or how many the BATCH has";
        Run.promise(2, words, "behind a batch, and where memory is full").puts(1, 4).due("open", 4)
                .calls(BATCH_OF_FOUR).calls("""
                close false -> 4
                put 5 50 -> 5
                put 6 60 -> 6
                put 7 70 -> 7
                put 8 80 -> 8
                count 1 -> 0
                put 8 80 -> 9
                open -> 9
                put 7 7 -> 1
                """);
        Run.promise(2, words, "where four tables are merged and all is dropped").again(31, "remove 9")
                .due("put 9 1", 32).due("count 10", 31);
    }

    private static void removeKeys() {
        Run.promise(3, "As put, GONE.", "key 0 .. 63").calls("""
                remove -1 -> IllegalArgumentException
                remove 64 -> IllegalArgumentException
                remove -2147483648 -> IllegalArgumentException
                remove 2147483647 -> IllegalArgumentException
                count 0 -> 0
                put 0 5 -> 1
                put 63 5 -> 2
                remove 0 -> 3
                remove 63 -> 4
                get 0 -1 -> NoSuchElementException
                get 63 -1 -> NoSuchElementException
                count 1 -> 4
                """);
    }

    private static void removeAsPut() {
        String words = "As put, GONE.";
        Run.promise(3, words, "four in the batch").calls("""
                put 1 1 -> 1
                open -> 1
                remove 1 -> 1
                remove 2 -> 2
                put 2 2 -> 3
                remove 3 -> 4
                remove 4 -> UnsupportedOperationException
                get 1 -1 -> 1
                close true -> 5
                get 1 -1 -> NoSuchElementException
                get 2 -1 -> 2
                """);
        Run.promise(3, words, "the store is full").due("snapshot", 0).again(239, "put 9 1").calls("""
                remove 9 -> 240
                remove 9 -> IllegalStateException
                get 9 -1 -> NoSuchElementException
                get 9 0 -> NoSuchElementException
                count 0 -> 240
                """);
        Run.promise(3, words, "the store is stuck with eight tables").stuck(7).puts(0, 6).calls("""
                remove 0 -> 64
                remove 0 -> IllegalStateException
                get 0 -1 -> NoSuchElementException
                """).levels(8, 0, 0, 0);
        Run.promise(3, words, "memory is full").puts(1, 7).calls("""
                remove 7 -> 8
                count 1 -> 0
                table 0 2 -> 8
                get 7 -1 -> NoSuchElementException
                """);
    }

    private static void removeWhatIsNotThere() {
        Run.promise(3, "As put, GONE.", "a key without a value, twice").calls("""
                remove 5 -> 1
                remove 5 -> 2
                count 1 -> 2
                count 2 -> 2
                flush -> 1
                table 0 2 -> 2
                table 0 3 -> 5
                get 5 -1 -> NoSuchElementException
                next -1 -1 -> NoSuchElementException
                count 6 -> 1
                """);
    }

    private static void openTwice() {
        String words = "A BATCH is open: IllegalStateException";
        Run.promise(4, words, "an empty one, one with four, one kept open").calls("""
                open -> 0
                open -> IllegalStateException
                """).calls(BATCH_OF_FOUR).calls("""
                open -> IllegalStateException
                close true -> 4
                open -> 4
                close false -> 4
                open -> 4
                crash 0 -> 0
                open -> 0
                """);
        Run.promise(4, words, "one that could not be written").stuck(8).calls("""
                open -> 64
                put 1 1 -> 1
                close true -> IllegalStateException
                open -> IllegalStateException
                """);
    }

    private static void openIsEmpty() {
        Run.promise(4, "An empty one is.", "whatever the one before had").due("open", 0).calls(BATCH_OF_FOUR).calls("""
                close false -> 0
                open -> 0
                put 9 1 -> 1
                crash 0 -> 0
                open -> 0
                close true -> 0
                count 2 -> 0
                open -> 0
                put 9 2 -> 1
                close true -> 1
                put 9 3 -> 2
                open -> 2
                close true -> 2
                count 1 -> 2
                """);
    }

    private static void openAnswers() {
        Run.promise(4, "Answers the latest NUMBER", "none yet, some, and fewer behind a crash").calls("""
                open -> 0
                close true -> 0
                put 1 1 -> 1
                put 2 2 -> 2
                open -> 2
                crash 1 -> 1
                open -> 1
                crash 0 -> 1
                """);
    }

    private static void closeWithoutBatch() {
        Run.promise(5, "No BATCH: UnsupportedOperationException", "none yet, none any more").calls("""
                close true -> UnsupportedOperationException
                close false -> UnsupportedOperationException
                open -> 0
                close true -> 0
                close true -> UnsupportedOperationException
                open -> 0
                close false -> 0
                close false -> UnsupportedOperationException
                open -> 0
                put 1 1 -> 1
                crash 100 -> 0
                close true -> UnsupportedOperationException
                """);
    }

    private static void closeKeeps() {
        String words = "keep, and it is not empty: a RECORD of its ENTRIES, in order, is WRITTEN";
        Run.promise(5, words, "kept, but empty").due("open", 0).calls("""
                close true -> 0
                count 1 -> 0
                count 2 -> 0
                """);
        Run.promise(5, words, "not kept").due("open", 0).calls(BATCH_OF_FOUR).calls("""
                close false -> 0
                count 1 -> 0
                count 2 -> 0
                get 1 -1 -> NoSuchElementException
                """);
        Run.promise(5, words, "one record of four with one key").calls("""
                open -> 0
                put 1 1 -> 1
                remove 1 -> 2
                put 1 3 -> 3
                put 1 4 -> 4
                close true -> 4
                count 1 -> 4
                count 2 -> 1
                get 1 -1 -> 4
                flush -> 1
                """).entries(0, 4, 3, 2, 1);
        Run.promise(5, words, "kept but empty where nothing can be written").stuck(8).calls("""
                open -> 64
                close true -> 64
                open -> 64
                put 1 1 -> 1
                close false -> 64
                """);
        Run.promise(5, words, "kept but empty when full").due("snapshot", 0).again(240, "put 9 1").calls("""
                open -> 240
                close true -> 240
                close true -> UnsupportedOperationException
                """);
    }

    private static void closeStaysOpen() {
        String words = "(it stays open if that throws)";
        Run.promise(5, words, "too many entries").due("snapshot", 0).again(238, "put 9 1").calls("""
                open -> 238
                put 1 1 -> 1
                put 2 2 -> 2
                put 3 3 -> 3
                close true -> IllegalStateException
                open -> IllegalStateException
                put 4 4 -> 4
                put 5 5 -> UnsupportedOperationException
                close true -> IllegalStateException
                count 0 -> 238
                count 1 -> 6
                close false -> 238
                close false -> UnsupportedOperationException
                """);
        Run.promise(5, words, "stuck, and written once that is over").stuck(8).due("open", 64).calls("""
                put 9 1 -> 1
                close true -> IllegalStateException
                put 9 2 -> 2
                giveUp -> 4
                close true -> 66
                get 9 -1 -> 2
                count 1 -> 2
                count 2 -> 1
                """);
    }

    private static void closeLeavesNone() {
        Run.promise(5, "There is none.", "the next entries are written at once").calls("""
                open -> 0
                put 1 1 -> 1
                close true -> 1
                put 1 2 -> 2
                open -> 2
                put 1 3 -> 1
                close false -> 2
                put 1 4 -> 3
                count 2 -> 3
                """);
    }

    private static void closeAnswers() {
        Run.promise(5, "Answers the latest NUMBER", "none yet, its last entry's, and that from before").calls("""
                open -> 0
                close false -> 0
                open -> 0
                put 1 1 -> 1
                put 1 2 -> 2
                close true -> 2
                open -> 2
                put 1 3 -> 1
                close false -> 2
                """).from(2).puts(1, 4).due("open", 6).calls(BATCH_OF_FOUR).due("close true", 10).due("count 1", 0);
    }

    private static void sync() {
        Run.promise(6, "All RECORDS of the LOG are SYNCED. Answers how many.", "none, one, seven, none again").calls("""
                sync -> 0
                put 1 10 -> 1
                sync -> 1
                sync -> 1
                """).from(1).puts(2, 7).calls("""
                count 3 -> 1
                sync -> 7
                count 3 -> 7
                put 8 80 -> 8
                sync -> 0
                count 3 -> 0
                """);
        Run.promise(6, "Answers how many", "records, not entries, and no batch that is open").due("open", 0)
                .calls(BATCH_OF_FOUR).calls("""
                sync -> 0
                close true -> 4
                sync -> 1
                """);
    }

    private static void crashKeep() {
        String words = "so many more (as far as there are, keep 0 .. 100)";
        Run.promise(7, words, "too small and too large").puts(1, 3).calls("""
                crash -1 -> IllegalArgumentException
                crash 101 -> IllegalArgumentException
                crash -2147483648 -> IllegalArgumentException
                crash 2147483647 -> IllegalArgumentException
                count 2 -> 3
                count 3 -> 0
                """);
        Run.promise(7, words, "0").puts(1, 3).due("crash 0", 0).due("count 1", 0);
        Run.promise(7, words, "100").puts(1, 3).due("sync", 3).puts(4, 7).due("crash 100", 7).due("count 1", 7);
        Run.promise(7, words, "no more than are synced").puts(1, 7).calls("""
                sync -> 7
                crash 0 -> 7
                crash 1 -> 7
                """);
        Run.promise(7, words, "one less than there are").puts(1, 2).due("sync", 2).puts(3, 5).calls("""
                crash 2 -> 4
                get 4 -1 -> 40
                get 5 -1 -> NoSuchElementException
                """);
        Run.promise(7, words, "as many as there are").puts(1, 2).due("sync", 2).puts(3, 5).calls("""
                crash 3 -> 5
                get 5 -1 -> 50
                """);
        Run.promise(7, words, "an empty log").calls("""
                crash 0 -> 0
                crash 100 -> 0
                """);
    }

    private static void crashBatchAndSnapshots() {
        Run.promise(7, "The BATCH is no more", "also if all records are left").puts(1, 1).calls("""
                open -> 1
                put 2 2 -> 1
                crash 100 -> 1
                close true -> UnsupportedOperationException
                get 2 -1 -> NoSuchElementException
                put 3 3 -> 2
                """);
        Run.promise(7, "all SNAPSHOTS are free", "all four").puts(1, 1).calls("""
                snapshot -> 0
                snapshot -> 1
                snapshot -> 2
                snapshot -> 3
                crash 100 -> 1
                get 1 0 -> UnsupportedOperationException
                get 1 1 -> UnsupportedOperationException
                next 0 2 -> UnsupportedOperationException
                release 3 -> UnsupportedOperationException
                snapshot -> 0
                get 1 0 -> 10
                """);
    }

    private static void crashLeavesRecords() {
        String words = "of the LOG the SYNCED RECORDS are left";
        Run.promise(7, words, "a record of four is left or lost whole").due("open", 0).calls(BATCH_OF_FOUR).calls("""
                close true -> 4
                open -> 4
                put 5 5 -> 1
                put 1 6 -> 2
                close true -> 6
                crash 1 -> 1
                count 1 -> 4
                get 1 -1 -> 1
                get 5 -1 -> NoSuchElementException
                """);
        Run.promise(7, "MEMORY is what these RECORDS have", "an older entry shows again").calls("""
                put 1 1 -> 1
                sync -> 1
                remove 1 -> 2
                get 1 -1 -> NoSuchElementException
                crash 0 -> 1
                get 1 -1 -> 1
                count 1 -> 1
                """);
    }

    private static void crashNumbers() {
        String words = "NUMBERS go on behind the greatest in MEMORY and TABLES, from 1 without any";
        Run.promise(7, words, "without any").puts(1, 5).calls("""
                crash 0 -> 0
                count 0 -> 0
                put 1 1 -> 1
                """);
        Run.promise(7, words, "the greatest in memory").puts(1, 8).puts(1, 3).calls("""
                crash 2 -> 2
                count 0 -> 10
                put 1 1 -> 11
                """);
        Run.promise(7, words, "the greatest in a table").puts(1, 8).puts(1, 3).calls("""
                crash 0 -> 0
                count 0 -> 8
                put 1 1 -> 9
                """);
        Run.promise(7, words, "the greatest is not in the newest table or the last row").flushed(1, 63)
                .flushed(2, 0, 62, 1).calls("""
                put 5 5 -> 5
                crash 0 -> 0
                count 0 -> 4
                """);
        // The greatest numbers went with the spoiled block; only a crash goes back behind them.
        Run.promise(7, words, "the greatest were given up").puts(1, 8).calls("""
                spoil 0 1 -> 4
                giveUp -> 4
                count 0 -> 8
                crash 0 -> 0
                count 0 -> 4
                put 1 1 -> 5
                """);
        Run.promise(7, words, "all were dropped").again(32, "remove 9").calls("""
                count 4 -> 0
                count 0 -> 32
                crash 0 -> 0
                count 0 -> 0
                put 9 1 -> 1
                """);
    }

    private static void crashSyncs() {
        Run.promise(7, "(and all that is left is SYNCED)", "the next crash loses none of it").puts(1, 5).calls("""
                crash 3 -> 3
                count 3 -> 3
                count 2 -> 3
                put 9 9 -> 4
                count 3 -> 3
                crash 0 -> 3
                count 3 -> 3
                """);
    }

    private static void crashAnswers() {
        Run.promise(7, "Answers how many RECORDS are left", "records, not entries").due("open", 0)
                .calls(BATCH_OF_FOUR).calls("""
                close true -> 4
                put 5 5 -> 5
                crash 1 -> 1
                crash 100 -> 1
                """);
    }

    private static void flushEmpty() {
        Run.promise(8, "MEMORY is empty: UnsupportedOperationException", "at first, behind a flush, behind a crash")
                .calls("""
                flush -> UnsupportedOperationException
                open -> 0
                put 1 1 -> 1
                flush -> UnsupportedOperationException
                close false -> 0
                put 1 1 -> 1
                flush -> 1
                flush -> UnsupportedOperationException
                put 1 1 -> 2
                crash 0 -> 0
                flush -> UnsupportedOperationException
                """).from(1).puts(1, 8).due("flush", "UnsupportedOperationException").levels(2, 0, 0, 0);
    }

    private static void flushTidies() {
        String words = "FLUSH, and TIDYING as behind WRITING";
        Run.promise(8, words, "one entry, and the fourth table").flushed(1, 9).levels(1, 0, 0, 0).flushed(2, 9)
                .flushed(3, 9).levels(3, 0, 0, 0).flushed(1, 9).levels(0, 1, 0, 0);
        Run.promise(8, words, "stuck, so that nothing is tidied").stuck(4).flushed(5, 9).levels(5, 0, 0, 0)
                .due("count 5", 1).due("count 9", 5);
    }

    private static void flushWhileStuck() {
        String words = "STUCK and LEVEL 0 has 8 TABLES: IllegalStateException";
        // With eight tables memory is always empty: nothing more can be written, and that is said first.
        Run.promise(8, words, "seven tables, then eight").stuck(7).calls("""
                put 9 1 -> 57
                flush -> 8
                flush -> UnsupportedOperationException
                put 9 1 -> IllegalStateException
                flush -> UnsupportedOperationException
                """).levels(8, 0, 0, 0);
        Run.promise(8, words, "eight tables with others below").puts(0, 31).due("spoil 0 0", 4).puts(32, 63)
                .due("count 5", 1).flushed(13, 1).flushed(14, 1).flushed(15, 1).flushed(16, 1).flushed(17, 1)
                .flushed(18, 1).flushed(19, 1).flushed(20, 1).levels(8, 9, 3, 0)
                .due("put 1 1", "IllegalStateException").due("flush", "UnsupportedOperationException");
    }

    private static void flushAnswers() {
        Run.promise(8, "Answers how many TABLES there are", "on all levels").puts(0, 31)
                .levels(0, 3, 3, 0).flushed(7, 1);
        Run.promise(8, "Answers how many TABLES there are", "none at all").again(31, "remove 9")
                .due("count 1", 7).due("flush", 0);
    }

    private static void getSnapshots() {
        Run.promise(9, "snapshot -1 .. 3", "too small and too large").puts(1, 1).calls("""
                get 1 -2 -> IllegalArgumentException
                get 1 4 -> IllegalArgumentException
                get 1 -2147483648 -> IllegalArgumentException
                get 1 2147483647 -> IllegalArgumentException
                get 1 -1 -> 10
                snapshot -> 0
                snapshot -> 1
                snapshot -> 2
                snapshot -> 3
                get 1 0 -> 10
                get 1 3 -> 10
                count 8 -> 3
                """);
    }

    private static void getFreeSnapshot() {
        Run.promise(9, "One that is free: UnsupportedOperationException", "never taken, released, lost").puts(1, 1)
                .calls("""
                get 1 0 -> UnsupportedOperationException
                get 1 3 -> UnsupportedOperationException
                snapshot -> 0
                get 1 0 -> 10
                get 1 1 -> UnsupportedOperationException
                release 0 -> 1
                get 1 0 -> UnsupportedOperationException
                snapshot -> 0
                crash 100 -> 1
                get 1 0 -> UnsupportedOperationException
                """);
    }

    private static void getLatest() {
        Run.promise(9, "It is LOOKED for up to its NUMBER, for -1 the latest", "the same key in a row").calls("""
                snapshot -> 0
                put 1 1 -> 1
                snapshot -> 1
                remove 1 -> 2
                snapshot -> 2
                put 1 3 -> 3
                get 1 0 -> NoSuchElementException
                get 1 1 -> 1
                get 1 2 -> NoSuchElementException
                get 1 -1 -> 3
                """);
    }

    private static void getCounts() {
        String words = "a GET counts, also if it throws";
        Run.promise(9, words, "none, gone, spoiled").flushed(1, 5).calls("""
                get 5 -1 -> 50
                count 8 -> 1
                get 6 -1 -> NoSuchElementException
                count 8 -> 2
                remove 7 -> 2
                get 7 -1 -> NoSuchElementException
                count 8 -> 3
                spoil 0 0 -> 1
                get 5 -1 -> IllegalStateException
                count 8 -> 4
                """);
        // What is refused before anything is looked for changes nothing, so it is no GET.
        Run.promise(9, words, "only what is looked for").calls("""
                get 64 -1 -> IllegalArgumentException
                get 5 4 -> IllegalArgumentException
                get 5 0 -> UnsupportedOperationException
                count 8 -> 0
                effort -> ArithmeticException
                """);
    }

    private static void getNone() {
        Run.promise(9, "None, or GONE: NoSuchElementException", "in memory, in tables, merged").calls("""
                get 9 -1 -> NoSuchElementException
                remove 9 -> 1
                get 9 -1 -> NoSuchElementException
                flush -> 1
                get 9 -1 -> NoSuchElementException
                put 9 0 -> 2
                get 9 -1 -> 0
                flush -> 2
                get 9 -1 -> 0
                remove 9 -> 3
                flush -> 3
                get 9 -1 -> NoSuchElementException
                snapshot -> 0
                put 9 4 -> 4
                flush -> 1
                get 9 -1 -> 4
                get 9 0 -> NoSuchElementException
                get 8 -1 -> NoSuchElementException
                """);
    }

    private static void nextKeys() {
        Run.promise(10, "The least KEY above key, -1 .. 63", "both ends, and beyond them").puts(0, 0).puts(63, 63).calls("""
                next -2 -1 -> IllegalArgumentException
                next 64 -1 -> IllegalArgumentException
                next -2147483648 -1 -> IllegalArgumentException
                next 2147483647 -1 -> IllegalArgumentException
                next -1 -1 -> 0
                next 0 -1 -> 63
                next 1 -1 -> 63
                next 62 -1 -> 63
                next 63 -1 -> NoSuchElementException
                """);
    }

    private static void nextAsGet() {
        String words = "for which get would find a VALUE (if nothing were SPOILED)";
        Run.promise(10, words, "all is spoiled").puts(1, 8).calls("""
                spoil 0 0 -> 4
                spoil 0 1 -> 4
                get 1 -1 -> IllegalStateException
                next -1 -1 -> 1
                next 4 -1 -> 5
                next 7 -1 -> 8
                giveUp -> 8
                next -1 -1 -> NoSuchElementException
                """);
        Run.promise(10, words, "gone is no value, but 0 is").flushed(1, 1, 2, 3).calls("""
                remove 1 -> 4
                put 2 0 -> 5
                next -1 -1 -> 2
                flush -> 2
                next -1 -1 -> 2
                remove 2 -> 6
                next -1 -1 -> 3
                put 1 7 -> 7
                next -1 -1 -> 1
                open -> 7
                put 0 1 -> 1
                next -1 -1 -> 1
                """);
        Run.promise(10, words, "a spoiled block still hides what is older").flushed(1, 5, 6).calls("""
                remove 5 -> 3
                flush -> 2
                spoil 0 0 -> 1
                next -1 -1 -> 6
                giveUp -> 1
                next -1 -1 -> 5
                """);
        Run.promise(10, words, "on every level").puts(0, 63).calls("""
                next -1 -1 -> 0
                next 23 -1 -> 24
                next 49 -1 -> 50
                next 62 -1 -> 63
                """);
    }

    private static void nextCountsNothing() {
        Run.promise(10, "nothing counts", "no GET, no READ, no MISS").flushed(1, 0, 63).calls("""
                next -1 -1 -> 0
                next 0 -1 -> 63
                next 63 -1 -> NoSuchElementException
                count 6 -> 0
                count 7 -> 0
                count 8 -> 0
                effort -> ArithmeticException
                """);
    }

    private static void nextSnapshots() {
        Run.promise(10, "snapshot as for get", "too small, too large, free, and its number").calls("""
                snapshot -> 0
                put 1 1 -> 1
                snapshot -> 1
                remove 1 -> 2
                put 2 2 -> 3
                next -1 -2 -> IllegalArgumentException
                next -1 4 -> IllegalArgumentException
                next -1 2 -> UnsupportedOperationException
                next -1 3 -> UnsupportedOperationException
                next -1 0 -> NoSuchElementException
                next -1 1 -> 1
                next 1 1 -> NoSuchElementException
                next -1 -1 -> 2
                release 1 -> 1
                next -1 1 -> UnsupportedOperationException
                """);
    }

    private static void nextNone() {
        Run.promise(10, "None: NoSuchElementException", "empty, and behind the last").calls("""
                next -1 -1 -> NoSuchElementException
                next 63 -1 -> NoSuchElementException
                put 30 1 -> 1
                next 29 -1 -> 30
                next 30 -1 -> NoSuchElementException
                remove 30 -> 2
                next -1 -1 -> NoSuchElementException
                """);
    }

    private static void snapshotNoneFree() {
        Run.promise(11, "None is free: IllegalStateException", "the fourth and the fifth").calls("""
                snapshot -> 0
                snapshot -> 1
                snapshot -> 2
                snapshot -> 3
                snapshot -> IllegalStateException
                release 3 -> 0
                snapshot -> 3
                snapshot -> IllegalStateException
                crash 0 -> 0
                snapshot -> 0
                """);
    }

    private static void snapshotLeastFree() {
        Run.promise(11, "The least free SNAPSHOT gets the latest NUMBER", "0 at first, and gaps").calls("""
                snapshot -> 0
                put 1 1 -> 1
                snapshot -> 1
                put 1 2 -> 2
                snapshot -> 2
                open -> 2
                put 1 3 -> 1
                snapshot -> 3
                close true -> 3
                release 2 -> 2
                release 1 -> 1
                snapshot -> 1
                release 0 -> 0
                snapshot -> 0
                snapshot -> 2
                release 0 -> 3
                release 1 -> 3
                release 2 -> 3
                release 3 -> 2
                """);
    }

    private static void releaseRange() {
        Run.promise(12, "snapshot 0 .. 3", "too small and too large").calls("""
                snapshot -> 0
                snapshot -> 1
                snapshot -> 2
                snapshot -> 3
                release -1 -> IllegalArgumentException
                release 4 -> IllegalArgumentException
                release -2147483648 -> IllegalArgumentException
                release 2147483647 -> IllegalArgumentException
                release 0 -> 0
                release 3 -> 0
                """);
    }

    private static void releaseFree() {
        Run.promise(12, "It is free: UnsupportedOperationException", "never taken, released").calls("""
                release 0 -> UnsupportedOperationException
                release 3 -> UnsupportedOperationException
                snapshot -> 0
                release 1 -> UnsupportedOperationException
                release 0 -> 0
                release 0 -> UnsupportedOperationException
                """);
        Run.promise(12, "It is free. Answers its NUMBER", "only that one").puts(1, 1).calls("""
                snapshot -> 0
                snapshot -> 1
                release 0 -> 1
                get 1 0 -> UnsupportedOperationException
                get 1 1 -> 10
                snapshot -> 0
                get 1 0 -> 10
                """);
    }

    private static void releaseAnswers() {
        Run.promise(12, "Answers its NUMBER", "0, and one that is no more the latest").calls("""
                snapshot -> 0
                put 1 1 -> 1
                snapshot -> 1
                put 1 1 -> 2
                release 1 -> 1
                release 0 -> 0
                """);
    }

    private static void spoilRange() {
        Run.promise(13, "i 0 .. 59, block 0 .. 59", "too small and too large").flushed(1, 9).calls("""
                spoil -1 0 -> IllegalArgumentException
                spoil 60 0 -> IllegalArgumentException
                spoil 0 -1 -> IllegalArgumentException
                spoil 0 60 -> IllegalArgumentException
                spoil -2147483648 0 -> IllegalArgumentException
                spoil 2147483647 0 -> IllegalArgumentException
                spoil 0 -2147483648 -> IllegalArgumentException
                spoil 0 2147483647 -> IllegalArgumentException
                spoil 59 59 -> IndexOutOfBoundsException
                table 0 5 -> 0
                spoil 0 0 -> 1
                """);
        // Small flushes bring all 240 entries of the one key together in one table of sixty blocks.
        Run.promise(13, "i 0 .. 59, block 0 .. 59", "the sixtieth block").due("snapshot", 0).again(236, "put 9 1")
                .due("flush", 3).again(2, "put 9 1").due("flush", 4).again(2, "put 9 1").due("flush", 1).calls("""
                table 0 2 -> 240
                spoil 0 59 -> 4
                spoil 0 60 -> IllegalArgumentException
                table 0 5 -> 1
                """);
    }

    private static void spoilOrder() {
        String words = "BLOCK of the i-th TABLE, all ordered by LEVELS, on LEVEL 0 by falling TABLE NUMBERS, on others "
                + "by KEYS";
        // Tables by least key: 40, 41 on level 0; 18, 24, 30 on level 1; 0, 6, 12 on level 2.
        Run run = Run.promise(13, words, "the first and the last of each level").puts(0, 31).flushed(7, 41)
                .flushed(8, 40).levels(2, 3, 3, 0);
        int[] least = {40, 41, 18, 24, 30, 0, 6, 12};
        for (int i = 0; i < least.length; i++) {
            run.due("table " + i + " 3", least[i]).due("get " + least[i] + " -1", 10 * least[i]);
            run.due("spoil " + i + " 0", i < 2 ? 1 : i == 4 ? 2 : 4);
            run.due("get " + least[i] + " -1", "IllegalStateException");
        }
        run.due("spoil 8 0", "IndexOutOfBoundsException");
        // The newer table comes first though its keys are greater.
        Run.promise(13, words, "numbers, not keys, on level 0").flushed(1, 40).flushed(2, 41).due("table 0 3", 41)
                .due("spoil 0 0", 1).due("get 41 -1", "IllegalStateException").due("get 40 -1", 400);
        // The newer table comes last as its keys are greater, then first as its keys are less.
        Run.promise(13, words, "keys, not numbers, on level 1").flushed(1, 30).flushed(2, 30).flushed(3, 30)
                .flushed(1, 30).flushed(2, 40).flushed(3, 40).flushed(4, 40).flushed(2, 40).flushed(3, 20)
                .flushed(4, 20).flushed(5, 20).flushed(3, 20).table(0, 14, 1, 1, 20, 20).table(1, 4, 1, 1, 30, 30)
                .table(2, 9, 1, 1, 40, 40);
    }

    private static void spoilNoSuch() {
        Run.promise(13, "No such: IndexOutOfBoundsException", "behind the last table and the last block").calls("""
                spoil 0 0 -> IndexOutOfBoundsException
                """).flushed(1, 1, 2, 3, 4, 5).flushed(2, 1).calls("""
                spoil 2 0 -> IndexOutOfBoundsException
                spoil 59 0 -> IndexOutOfBoundsException
                spoil 0 1 -> IndexOutOfBoundsException
                spoil 1 2 -> IndexOutOfBoundsException
                spoil 1 59 -> IndexOutOfBoundsException
                table 0 5 -> 0
                table 1 5 -> 0
                spoil 0 0 -> 1
                spoil 1 1 -> 1
                """);
        Run.promise(13, "No such: IndexOutOfBoundsException", "where there were more before").again(31, "put 9 1").calls("""
                spoil 2 1 -> 4
                giveUp -> 4
                spoil 2 1 -> IndexOutOfBoundsException
                put 9 1 -> 32
                spoil 1 0 -> IndexOutOfBoundsException
                spoil 0 1 -> IndexOutOfBoundsException
                spoil 0 0 -> 1
                """);
    }

    private static void spoilAnswers() {
        Run.promise(13, "It is SPOILED. Answers how many ENTRIES it has.", "a whole one, the last one, twice")
                .flushed(1, 1, 2, 3, 4, 5, 6).calls("""
                spoil 0 1 -> 2
                table 0 5 -> 1
                spoil 0 1 -> 2
                table 0 5 -> 1
                get 4 -1 -> 40
                get 5 -1 -> IllegalStateException
                spoil 0 0 -> 4
                table 0 5 -> 2
                get 4 -1 -> IllegalStateException
                count 5 -> 0
                """);
    }

    private static void giveUpAll() {
        String words = "All SPOILED BLOCKS are no more, with their ENTRIES";
        Run.promise(14, words, "in tables on all levels").puts(0, 31).flushed(7, 40).calls("""
                spoil 0 0 -> 1
                spoil 1 1 -> 2
                spoil 4 0 -> 4
                giveUp -> 7
                get 40 -1 -> NoSuchElementException
                get 22 -1 -> NoSuchElementException
                get 0 -1 -> NoSuchElementException
                get 21 -1 -> 210
                get 4 -1 -> 40
                next -1 -1 -> 4
                next 21 -1 -> 24
                table 0 5 -> 0
                count 10 -> 0
                """).levels(0, 3, 3, 0);
        Run.promise(14, words, "an older entry shows again").flushed(1, 9).calls("""
                remove 9 -> 2
                flush -> 2
                spoil 0 0 -> 1
                giveUp -> 1
                get 9 -1 -> 90
                """);
        Run.promise(14, words, "memory, batch and snapshots are left").flushed(1, 9).puts(8, 8).calls("""
                snapshot -> 0
                open -> 2
                put 7 7 -> 1
                spoil 0 0 -> 1
                giveUp -> 1
                get 8 0 -> 80
                count 0 -> 2
                count 2 -> 1
                close true -> 3
                """);
    }

    private static void giveUpRest() {
        String words = "(the others of a TABLE are in new BLOCKS of four; without any it is no more)";
        // 1 2 3 4, 5 6 7 8, 9 10 11 without its first block: 5 6 7 8, 9 10 11; without its second: 1 2 3 4, 9 10 11.
        for (int block = 0; block <= 2; block++) {
            Run run = Run.promise(14, words, "one of three blocks: " + block).puts(1, 7).calls("""
                    open -> 7
                    put 8 80 -> 1
                    put 9 90 -> 2
                    put 10 100 -> 3
                    put 11 110 -> 4
                    close true -> 11
                    """);
            run.due("spoil 0 " + block, block < 2 ? 4 : 3).due("giveUp", block < 2 ? 4 : 3);
            run.table(0, 0, 0, block < 2 ? 7 : 8, block == 0 ? 5 : 1, block < 2 ? 11 : 8).due("table 0 5", 0);
            run.due("spoil 0 2", "IndexOutOfBoundsException").due("spoil 0 1", block < 2 ? 3 : 4);
            run.due("get 9 -1", block < 2 ? "IllegalStateException" : "NoSuchElementException");
        }
        Run.promise(14, words, "without any").flushed(1, 1, 2, 3, 4, 5).flushed(2, 6).calls("""
                spoil 1 0 -> 4
                spoil 1 1 -> 1
                giveUp -> 5
                count 4 -> 1
                """).table(0, 1, 0, 1, 6, 6).calls("""
                table 1 0 -> IndexOutOfBoundsException
                spoil 0 0 -> 1
                giveUp -> 1
                count 4 -> 0
                count 9 -> 2
                """);
        Run.promise(14, words, "its range is that of the others").puts(1, 8).calls("""
                spoil 0 0 -> 4
                giveUp -> 4
                get 4 -1 -> NoSuchElementException
                count 6 -> 0
                count 7 -> 0
                get 5 -1 -> 50
                get 8 -1 -> 80
                """);
        // Blocks: four of key 0, four of 8, three of 63; the filter passes 2 for the sake of 0 and 8 together.
        Run.promise(14, words, "its filter is that of the others").again(4, "put 0 1").again(3, "put 8 1").calls("""
                open -> 7
                put 8 1 -> 1
                put 63 1 -> 2
                put 63 1 -> 3
                put 63 1 -> 4
                close true -> 11
                get 2 -1 -> NoSuchElementException
                count 6 -> 1
                count 7 -> 0
                spoil 0 1 -> 4
                giveUp -> 4
                get 2 -1 -> NoSuchElementException
                get 8 -1 -> NoSuchElementException
                count 6 -> 1
                count 7 -> 2
                """);
    }

    private static void giveUpNotStuck() {
        String words = "the store is not STUCK, and TIDIED";
        Run.promise(14, words, "eight tables at once").stuck(8).calls("""
                giveUp -> 4
                count 5 -> 0
                put 9 1 -> 65
                """).levels(0, 2, 0, 0);
        Run.promise(14, words, "nothing to tidy").flushed(1, 1, 2, 3, 4, 5).flushed(2, 1).flushed(3, 1).calls("""
                spoil 2 0 -> 4
                giveUp -> 4
                count 5 -> 0
                """).levels(3, 0, 0, 0);
        // The table that made it stuck is no more: four are three then, and stay.
        Run.promise(14, words, "three tables are left on level 0").flushed(1, 1).flushed(2, 2).flushed(3, 3)
                .due("spoil 1 0", 1).flushed(4, 4).due("count 5", 1).due("giveUp", 1).due("count 5", 0)
                .levels(3, 0, 0, 0).flushed(1, 5).levels(0, 1, 0, 0);
    }

    private static void giveUpAnswers() {
        Run.promise(14, "Answers how many ENTRIES were lost", "none, some, none again").calls("""
                giveUp -> 0
                """).flushed(1, 1, 2, 3, 4, 5).calls("""
                giveUp -> 0
                spoil 0 1 -> 1
                spoil 0 0 -> 4
                giveUp -> 5
                giveUp -> 0
                """);
        Run.promise(14, "Answers how many ENTRIES were lost", "not those that tidying drops").stuck(5)
                .due("giveUp", 4).due("count 10", 28);
    }

    private static void effort() {
        Run.promise(15, "no GETS: ArithmeticException", "at first, and behind calls that are no GETS").calls("""
                effort -> ArithmeticException
                get 64 -1 -> IllegalArgumentException
                get 1 0 -> UnsupportedOperationException
                next -1 -1 -> NoSuchElementException
                effort -> ArithmeticException
                get 1 -1 -> NoSuchElementException
                effort -> 0.0
                """);
        Run.promise(15, "READS divided by GETS", "below, at and above one").flushed(1, 9).calls("""
                get 8 -1 -> NoSuchElementException
                get 8 -1 -> NoSuchElementException
                get 9 -1 -> 90
                """).due("effort", 1.0 / 3.0).flushed(2, 9).calls("""
                snapshot -> 0
                put 9 3 -> 3
                flush -> 3
                put 9 4 -> 4
                get 9 0 -> 90
                """).due("effort", 3.0 / 4.0).due(5, "get 9 0", 90).due("effort", 13.0 / 9.0);
    }

    private static void tableFacts() {
        String words = "0 its TABLE NUMBER, 1 its LEVEL, 2 ENTRIES, 3, 4 its least and greatest KEY, 5 SPOILED BLOCKS";
        Run.promise(16, words, "one entry of key 0").flushed(1, 0).table(0, 0, 0, 1, 0, 0).due("table 0 5", 0)
                .due("spoil 0 0", 1).due("table 0 5", 1);
        Run.promise(16, words, "on the last level, both ends of the keys").puts(0, 63).table(8, 29, 3, 6, 0, 5)
                .table(2, 22, 1, 2, 62, 63).due("table 8 5", 0).due("spoil 8 0", 4).due("spoil 8 1", 2)
                .due("table 8 5", 2);
    }

    private static void tableEntries() {
        String words = "6 + j: the NUMBER of ENTRY j 0 .. 9, 0 behind the last";
        Run.promise(16, words, "one entry").flushed(1, 9).calls("""
                table 0 6 -> 1
                table 0 7 -> 0
                table 0 15 -> 0
                """);
        Run.promise(16, words, "one entry, with other tables behind it").flushed(1, 9).flushed(2, 8).calls("""
                table 0 6 -> 2
                table 0 7 -> 0
                table 0 15 -> 0
                table 1 6 -> 1
                table 1 7 -> 0
                """);
        for (int last = 9; last <= 11; last++) {
            Run run = Run.promise(16, words, last + " entries").puts(1, 7).due("open", 7);
            for (int i = 8; i <= last; i++) {
                run.due("put " + i + " " + i, i - 7);
            }
            run.due("close true", last).due("table 0 2", last).due("table 0 14", 9).due("table 0 15", last < 10 ? 0 : 10);
        }
    }

    private static void tableNoSuch() {
        Run.promise(16, "No such TABLE: IndexOutOfBoundsException", "behind the last").calls("""
                table 0 0 -> IndexOutOfBoundsException
                table 59 15 -> IndexOutOfBoundsException
                """).flushed(1, 9).calls("""
                table 0 0 -> 0
                table 1 0 -> IndexOutOfBoundsException
                table 1 15 -> IndexOutOfBoundsException
                spoil 0 0 -> 1
                giveUp -> 1
                table 0 0 -> IndexOutOfBoundsException
                """);
    }

    private static void tableRange() {
        Run.promise(16, "what 0 .. 15", "too small and too large").flushed(1, 9).calls("""
                table 0 -1 -> IllegalArgumentException
                table 0 16 -> IllegalArgumentException
                table 0 -2147483648 -> IllegalArgumentException
                table 0 2147483647 -> IllegalArgumentException
                table 0 0 -> 0
                table 0 15 -> 0
                """);
        Run.promise(16, "Of the i-th TABLE as for spoil", "i too small and too large").flushed(1, 9).calls("""
                table -1 0 -> IllegalArgumentException
                table 60 0 -> IllegalArgumentException
                table -2147483648 0 -> IllegalArgumentException
                table 2147483647 0 -> IllegalArgumentException
                table 59 0 -> IndexOutOfBoundsException
                """);
    }

    private static void countRange() {
        Run.promise(17, "what 0 .. 16", "too small and too large").calls("""
                count -1 -> IllegalArgumentException
                count 17 -> IllegalArgumentException
                count -2147483648 -> IllegalArgumentException
                count 2147483647 -> IllegalArgumentException
                count 0 -> 0
                count 16 -> -1
                """);
    }

    private static void countStuck() {
        Run.promise(17, "5: 1 if STUCK, else 0", "before, while and behind it").puts(0, 7).due("spoil 0 0", 4)
                .puts(0, 7).puts(0, 7).due("count 5", 0).puts(0, 7).due("count 5", 1).due("crash 0", 0)
                .due("count 5", 1).due("giveUp", 4).due("count 5", 0);
        String words = "0 the latest NUMBER, 1 ENTRIES in MEMORY, 2 RECORDS in the LOG, 3 SYNCED ones, 4 TABLES";
        Run.promise(17, words, "the most in memory").puts(1, 4).due("sync", 4).due("open", 4).calls("""
                put 1 1 -> 1
                put 1 1 -> 2
                put 1 1 -> 3
                close true -> 7
                count 0 -> 7
                count 1 -> 7
                count 2 -> 5
                count 3 -> 4
                count 4 -> 0
                """);
        Run.promise(17, "6 READS, 7 MISSES, 8 GETS, 9 TABLES made ever, 10 ENTRIES dropped ever",
                "they stay when what they count is gone").flushed(1, 0, 63).calls("""
                get 0 -1 -> 0
                get 16 -1 -> NoSuchElementException
                get 2 -1 -> NoSuchElementException
                spoil 0 0 -> 2
                giveUp -> 2
                crash 0 -> 0
                count 6 -> 2
                count 7 -> 1
                count 8 -> 3
                count 9 -> 1
                count 10 -> 0
                """).from(0).again(32, "remove 9").calls("""
                count 4 -> 0
                count 9 -> 5
                count 10 -> 32
                crash 0 -> 0
                count 9 -> 5
                count 10 -> 32
                """);
    }

    private static void countLevels() {
        Run.promise(17, "11 + l: TABLES on LEVEL l 0 .. 3", "none, and some on each").levels(0, 0, 0, 0)
                .puts(0, 63).levels(0, 3, 5, 4).puts(0, 7).levels(1, 3, 5, 4);
    }

    private static void countPointers() {
        Run.promise(17, "15 + l: POINTER l + 1, l 0, 1", "at first, and each on its own").due("count 15", -1)
                .due("count 16", -1).puts(0, 31).due("count 15", 17).due("count 16", -1).puts(32, 63)
                .due("count 15", 49).due("count 16", 23);
    }
}
