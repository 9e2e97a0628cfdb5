/** Runs of calls for each promise of the document: ordinary inputs, its edges, and wrong inputs. */
public final class PromiseTest {
    private PromiseTest() {
    }

    public static void main(String[] args) {
        newObject();
        put();
        putFillsMemory();
        putUpTo240();
        putWhileBlocked();
        remove();
        open();
        close();
        closeWhenFull();
        sync();
        crash();
        crashKeepsTables();
        crashStartsNumbersAnew();
        flush();
        get();
        getCountsOnlyLooks();
        getSearchesNewestFirst();
        filterAndBlocks();
        blocksOfOneKey();
        getSpoiled();
        next();
        snapshot();
        release();
        spoil();
        giveUp();
        giveUpTidies();
        effort();
        table();
        count();
        order();
        tidying();
        tidyingAtThePointer();
        droppingGone();
        droppingForSnapshots();
        tableEnds();
        stuckOnLevelOne();
        spoiledAside();
        Run.end("PromiseTest");
    }

    /** Promise 1. */
    private static void newObject() {
        Run run = new Run("new object");
        for (int what = 0; what <= 14; what++) {
            run.due("count " + what, 0);
        }
        run.calls("""
                count 15 -> -1
                count 16 -> -1
                effort -> ArithmeticException
                table 0 0 -> IndexOutOfBoundsException
                spoil 0 0 -> IndexOutOfBoundsException
                get 0 0 -> UnsupportedOperationException
                get 0 3 -> UnsupportedOperationException
                get 0 -1 -> NoSuchElementException
                next -1 -1 -> NoSuchElementException
                close true -> UnsupportedOperationException
                flush -> UnsupportedOperationException
                sync -> 0
                giveUp -> 0
                crash 0 -> 0
                count 0 -> 0
                open -> 0
                """);
    }

    /** Promise 2. */
    private static void put() {
        new Run("put").calls("""
                put -1 0 -> IllegalArgumentException
                put 64 0 -> IllegalArgumentException
                put -2147483648 0 -> IllegalArgumentException
                put 2147483647 0 -> IllegalArgumentException
                count 0 -> 0
                put 0 -2147483648 -> 1
                put 63 2147483647 -> 2
                get 0 -1 -> -2147483648
                get 63 -1 -> 2147483647
                put 0 7 -> 3
                get 0 -1 -> 7
                count 1 -> 3
                count 2 -> 3
                open -> 3
                put 1 1 -> 1
                put 1 2 -> 2
                put 64 2 -> IllegalArgumentException
                put 2 3 -> 3
                put 3 4 -> 4
                put 4 5 -> UnsupportedOperationException
                put 64 5 -> IllegalArgumentException
                get 1 -1 -> NoSuchElementException
                count 0 -> 3
                count 1 -> 3
                count 2 -> 3
                close true -> 7
                get 1 -1 -> 2
                count 1 -> 7
                count 2 -> 4
                get 4 -1 -> NoSuchElementException
                """);
    }

    private static void putFillsMemory() {
        new Run("put fills memory").puts(10, 16).calls("""
                sync -> 7
                count 1 -> 7
                count 2 -> 7
                count 4 -> 0
                put 3 30 -> 8
                count 1 -> 0
                count 2 -> 0
                count 3 -> 0
                count 4 -> 1
                count 9 -> 1
                """).table(0, 0, 0, 8, 3, 16).calls("""
                table 0 6 -> 8
                table 0 7 -> 1
                table 0 13 -> 7
                table 0 14 -> 0
                """);
        new Run("a batch over memory's edge").puts(10, 16).calls("""
                open -> 7
                put 16 1 -> 1
                put 9 2 -> 2
                put 16 3 -> 3
                put 9 4 -> 4
                close true -> 11
                count 1 -> 0
                count 4 -> 1
                """).table(0, 0, 0, 11, 9, 16).calls("""
                table 0 6 -> 11
                table 0 7 -> 9
                table 0 8 -> 1
                table 0 14 -> 10
                table 0 15 -> 8
                """);
    }

    private static void putUpTo240() {
        Run run = new Run("put up to 240 entries").calls("snapshot -> 0");
        run.again(239, "put 9 1").calls("""
                count 1 -> 7
                put 64 1 -> IllegalArgumentException
                put 8 2 -> 240
                count 0 -> 240
                count 1 -> 0
                count 10 -> 0
                put 9 3 -> IllegalStateException
                remove 9 -> IllegalStateException
                put 64 3 -> IllegalArgumentException
                count 0 -> 240
                count 1 -> 0
                count 2 -> 0
                get 9 -1 -> 1
                get 8 -1 -> 2
                open -> 240
                put 7 1 -> 1
                close true -> IllegalStateException
                crash 0 -> 0
                put 7 1 -> IllegalStateException
                """);
    }

    private static void putWhileBlocked() {
        Run run = new Run("put while blocked").stuck(8).calls("""
                put 0 1 -> IllegalStateException
                remove 0 -> IllegalStateException
                put 64 1 -> IllegalArgumentException
                flush -> UnsupportedOperationException
                count 0 -> 64
                count 1 -> 0
                count 2 -> 0
                open -> 64
                put 0 1 -> 1
                close true -> IllegalStateException
                put 0 2 -> 2
                close false -> 64
                crash 5 -> 0
                count 5 -> 1
                put 0 1 -> IllegalStateException
                get 1 -1 -> 10
                giveUp -> 4
                count 5 -> 0
                put 0 1 -> 65
                """);
        run.due("count 11", 0);
    }

    /** Promise 3. */
    private static void remove() {
        new Run("remove").calls("""
                remove -1 -> IllegalArgumentException
                remove 64 -> IllegalArgumentException
                remove 63 -> 1
                put 0 5 -> 2
                remove 0 -> 3
                get 0 -1 -> NoSuchElementException
                get 63 -1 -> NoSuchElementException
                next -1 -1 -> NoSuchElementException
                count 1 -> 3
                put 0 6 -> 4
                get 0 -1 -> 6
                open -> 4
                remove 0 -> 1
                remove 1 -> 2
                remove 2 -> 3
                remove 3 -> 4
                remove 4 -> UnsupportedOperationException
                remove 64 -> IllegalArgumentException
                get 0 -1 -> 6
                close true -> 8
                get 0 -1 -> NoSuchElementException
                count 4 -> 1
                table 0 2 -> 8
                """);
    }

    /** Promise 4. */
    private static void open() {
        new Run("open").calls("""
                put 1 1 -> 1
                open -> 1
                open -> IllegalStateException
                put 2 2 -> 1
                open -> IllegalStateException
                put 3 3 -> 2
                close false -> 1
                open -> 1
                put 4 4 -> 1
                sync -> 1
                flush -> 1
                snapshot -> 0
                close true -> 2
                get 2 -1 -> NoSuchElementException
                get 4 0 -> NoSuchElementException
                get 4 -1 -> 4
                """);
    }

    /** Promise 5. */
    private static void close() {
        new Run("close").calls("""
                close true -> UnsupportedOperationException
                close false -> UnsupportedOperationException
                open -> 0
                close true -> 0
                close true -> UnsupportedOperationException
                count 2 -> 0
                open -> 0
                put 5 1 -> 1
                put 5 2 -> 2
                remove 6 -> 3
                close true -> 3
                count 1 -> 3
                count 2 -> 1
                get 5 -1 -> 2
                open -> 3
                put 5 3 -> 1
                close false -> 3
                close false -> UnsupportedOperationException
                get 5 -1 -> 2
                count 2 -> 1
                put 5 4 -> 4
                flush -> 1
                table 0 6 -> 4
                table 0 7 -> 2
                table 0 8 -> 1
                table 0 9 -> 3
                """);
    }

    private static void closeWhenFull() {
        new Run("close when full").calls("snapshot -> 0").again(238, "put 9 1").calls("""
                open -> 238
                put 1 1 -> 1
                put 2 1 -> 2
                put 3 1 -> 3
                close true -> IllegalStateException
                open -> IllegalStateException
                put 4 1 -> 4
                close true -> IllegalStateException
                count 0 -> 238
                count 1 -> 6
                close false -> 238
                open -> 238
                put 1 1 -> 1
                put 2 1 -> 2
                close true -> 240
                count 1 -> 0
                """);
    }

    /** Promise 6. */
    private static void sync() {
        new Run("sync").calls("""
                put 1 1 -> 1
                put 2 2 -> 2
                count 3 -> 0
                sync -> 2
                count 3 -> 2
                sync -> 2
                open -> 2
                put 3 3 -> 1
                put 4 4 -> 2
                sync -> 2
                close true -> 4
                count 3 -> 2
                sync -> 3
                count 1 -> 4
                flush -> 1
                count 3 -> 0
                sync -> 0
                """);
    }

    /** Promise 7. */
    private static void crash() {
        new Run("crash").calls("""
                put 1 1 -> 1
                sync -> 1
                open -> 1
                put 2 2 -> 1
                put 3 3 -> 2
                close true -> 3
                put 4 4 -> 4
                put 5 5 -> 5
                snapshot -> 0
                snapshot -> 1
                open -> 5
                put 6 6 -> 1
                crash -1 -> IllegalArgumentException
                crash 101 -> IllegalArgumentException
                open -> IllegalStateException
                get 5 0 -> 5
                crash 2 -> 3
                close true -> UnsupportedOperationException
                get 4 0 -> UnsupportedOperationException
                get 4 1 -> UnsupportedOperationException
                count 0 -> 4
                count 1 -> 4
                count 2 -> 3
                count 3 -> 3
                get 4 -1 -> 4
                get 5 -1 -> NoSuchElementException
                put 5 50 -> 5
                count 3 -> 3
                put 6 60 -> 6
                crash 0 -> 3
                count 0 -> 4
                put 7 70 -> 5
                put 8 80 -> 6
                crash 100 -> 5
                count 0 -> 6
                count 3 -> 5
                get 8 -1 -> 80
                """);
        new Run("crash cuts a batch whole").calls("""
                open -> 0
                put 1 1 -> 1
                put 2 2 -> 2
                close true -> 2
                put 3 3 -> 3
                crash 1 -> 1
                count 0 -> 2
                count 1 -> 2
                crash 0 -> 1
                """);
    }

    private static void crashKeepsTables() {
        new Run("crash keeps tables").puts(0, 31).calls("""
                spoil 0 0 -> 4
                get 0 -1 -> 0
                put 40 1 -> 33
                put 41 1 -> 34
                crash 0 -> 0
                count 0 -> 32
                count 1 -> 0
                count 6 -> 1
                count 8 -> 1
                count 9 -> 13
                count 15 -> 17
                table 0 5 -> 1
                get 40 -1 -> NoSuchElementException
                put 40 2 -> 33
                """).levels(0, 3, 3, 0);
    }

    private static void crashStartsNumbersAnew() {
        new Run("crash starts numbers anew").calls("""
                put 1 1 -> 1
                put 2 2 -> 2
                crash 0 -> 0
                count 0 -> 0
                put 3 3 -> 1
                flush -> 1
                remove 3 -> 2
                flush -> 2
                remove 3 -> 3
                flush -> 3
                remove 3 -> 4
                flush -> 0
                count 0 -> 4
                crash 0 -> 0
                count 0 -> 0
                put 3 3 -> 1
                count 9 -> 4
                flush -> 1
                table 0 0 -> 4
                """);
    }

    /** Promise 8. */
    private static void flush() {
        new Run("flush").calls("""
                flush -> UnsupportedOperationException
                put 7 1 -> 1
                put 3 2 -> 2
                put 7 3 -> 3
                sync -> 3
                flush -> 1
                count 1 -> 0
                count 2 -> 0
                count 3 -> 0
                flush -> UnsupportedOperationException
                """).table(0, 0, 0, 3, 3, 7).calls("""
                table 0 6 -> 2
                table 0 7 -> 3
                table 0 8 -> 1
                table 0 9 -> 0
                put 9 1 -> 4
                flush -> 2
                table 0 6 -> 4
                table 0 7 -> 0
                put 9 2 -> 5
                flush -> 3
                table 0 0 -> 2
                table 1 0 -> 1
                table 2 0 -> 0
                put 9 3 -> 6
                flush -> 1
                count 10 -> 3
                table 1 0 -> IndexOutOfBoundsException
                spoil 1 0 -> IndexOutOfBoundsException
                spoil 2 0 -> IndexOutOfBoundsException
                """).table(0, 4, 1, 3, 3, 9).levels(0, 1, 0, 0);
    }

    /** Promise 9. */
    private static void get() {
        new Run("get").calls("""
                put 5 1 -> 1
                snapshot -> 0
                put 5 2 -> 2
                remove 6 -> 3
                snapshot -> 1
                remove 5 -> 4
                put 6 9 -> 5
                get -1 -1 -> IllegalArgumentException
                get 64 -1 -> IllegalArgumentException
                get 5 -2 -> IllegalArgumentException
                get 5 4 -> IllegalArgumentException
                get 64 2 -> IllegalArgumentException
                get 5 2 -> UnsupportedOperationException
                get 5 0 -> 1
                get 5 1 -> 2
                get 5 -1 -> NoSuchElementException
                get 6 0 -> NoSuchElementException
                get 6 1 -> NoSuchElementException
                get 6 -1 -> 9
                flush -> 1
                get 5 0 -> 1
                get 5 1 -> 2
                get 5 -1 -> NoSuchElementException
                get 6 0 -> NoSuchElementException
                get 6 1 -> NoSuchElementException
                get 6 -1 -> 9
                """);
    }

    private static void getCountsOnlyLooks() {
        new Run("get counts looks").calls("""
                put 5 1 -> 1
                get 5 -1 -> 1
                get 6 -1 -> NoSuchElementException
                count 8 -> 2
                get 64 -1 -> IllegalArgumentException
                get 5 7 -> IllegalArgumentException
                get 5 0 -> UnsupportedOperationException
                count 8 -> 2
                count 6 -> 0
                count 7 -> 0
                flush -> 1
                spoil 0 0 -> 1
                get 5 -1 -> IllegalStateException
                count 8 -> 3
                count 6 -> 1
                """);
    }

    private static void getSearchesNewestFirst() {
        // Marks modulo 16, by (7 k + 3) and (5 k + 1): 0 has 3 and 1, 63 has 12 and 12, 20 has 15 and 5.
        new Run("get searches the newest first").calls("""
                put 0 1 -> 1
                put 20 1 -> 2
                put 63 1 -> 3
                flush -> 1
                put 0 2 -> 4
                put 63 2 -> 5
                flush -> 2
                put 40 3 -> 6
                flush -> 3
                put 20 4 -> 7
                get 20 -1 -> 4
                count 6 -> 0
                count 7 -> 0
                get 0 -1 -> 2
                count 6 -> 1
                count 7 -> 0
                crash 0 -> 0
                get 20 -1 -> 1
                count 6 -> 2
                count 7 -> 1
                get 40 -1 -> 3
                count 6 -> 3
                count 7 -> 1
                """);
    }

    /** The filter passes keys by marks of different entries, and blocks before the key are not read. */
    private static void filterAndBlocks() {
        // Marks: 0 has 3 and 1, 8 has 11 and 9, 63 has 12 and 12; 2 has 1 and 11, 16 as 0, 10 has 9 and 3.
        new Run("filter").calls("""
                put 0 1 -> 1
                put 63 1 -> 2
                flush -> 1
                get 2 -1 -> NoSuchElementException
                count 7 -> 1
                get 10 -1 -> NoSuchElementException
                count 7 -> 2
                get 1 -1 -> NoSuchElementException
                count 7 -> 3
                count 6 -> 0
                get 16 -1 -> NoSuchElementException
                get 15 -1 -> NoSuchElementException
                count 7 -> 3
                count 6 -> 2
                spoil 0 0 -> 2
                giveUp -> 2
                put 0 1 -> 3
                put 8 1 -> 4
                put 63 1 -> 5
                flush -> 1
                get 2 -1 -> NoSuchElementException
                get 10 -1 -> NoSuchElementException
                count 7 -> 3
                count 6 -> 4
                get 1 -1 -> NoSuchElementException
                count 7 -> 4
                """);
        // Key 1 has the marks 10 and 6, 5 has 6 and 10: it passes, and only the second block may have it.
        new Run("blocks").puts(1, 4).puts(6, 9).calls("""
                get 5 -1 -> NoSuchElementException
                count 6 -> 1
                get 0 -1 -> NoSuchElementException
                get 10 -1 -> NoSuchElementException
                count 6 -> 1
                count 7 -> 0
                get 4 -1 -> 40
                count 6 -> 2
                get 9 -1 -> 90
                count 6 -> 3
                spoil 0 0 -> 4
                get 5 -1 -> NoSuchElementException
                get 9 -1 -> 90
                count 6 -> 5
                get 1 -1 -> IllegalStateException
                count 6 -> 6
                """);
    }

    private static void blocksOfOneKey() {
        new Run("blocks of one key").calls("""
                put 5 1 -> 1
                snapshot -> 0
                put 5 2 -> 2
                put 5 3 -> 3
                put 5 4 -> 4
                put 5 5 -> 5
                put 4 6 -> 6
                put 6 7 -> 7
                put 7 8 -> 8
                count 4 -> 1
                get 5 -1 -> 5
                count 6 -> 1
                get 5 0 -> 1
                count 6 -> 3
                get 4 0 -> NoSuchElementException
                count 6 -> 4
                get 6 0 -> NoSuchElementException
                count 6 -> 5
                spoil 0 1 -> 4
                get 5 -1 -> 5
                get 5 0 -> IllegalStateException
                count 6 -> 8
                """);
        Run run = new Run("blocks of one key to the table's end").calls("snapshot -> 0").again(8, "put 9 1");
        run.calls("""
                get 9 0 -> NoSuchElementException
                count 6 -> 2
                put 9 2 -> 9
                flush -> 2
                get 9 0 -> NoSuchElementException
                count 6 -> 5
                get 9 -1 -> 2
                count 6 -> 6
                """);
        new Run("the entry is the first of the second block").calls("""
                put 5 1 -> 1
                snapshot -> 0
                put 5 2 -> 2
                put 5 3 -> 3
                put 5 4 -> 4
                put 5 5 -> 5
                flush -> 1
                get 5 0 -> 1
                count 6 -> 2
                """);
        // The first block ends with the key, the second begins with a greater one: both are read.
        new Run("a block of newer entries of the key alone").calls("""
                snapshot -> 0
                put 5 1 -> 1
                put 5 2 -> 2
                put 5 3 -> 3
                put 5 4 -> 4
                put 6 5 -> 5
                flush -> 1
                get 5 0 -> NoSuchElementException
                count 6 -> 2
                """);
        new Run("a block with a greater key is the last").calls("""
                snapshot -> 0
                put 5 1 -> 1
                put 5 2 -> 2
                put 5 3 -> 3
                put 6 4 -> 4
                put 6 5 -> 5
                flush -> 1
                get 5 0 -> NoSuchElementException
                count 6 -> 1
                """);
    }

    private static void getSpoiled() {
        new Run("get in spoiled blocks").calls("""
                put 0 1 -> 1
                put 20 2 -> 2
                put 63 3 -> 3
                flush -> 1
                put 0 4 -> 4
                put 63 5 -> 5
                flush -> 2
                spoil 1 0 -> 3
                get 0 -1 -> 4
                count 6 -> 1
                get 20 -1 -> IllegalStateException
                count 6 -> 2
                count 7 -> 1
                count 8 -> 2
                get 16 -1 -> IllegalStateException
                count 6 -> 4
                put 20 9 -> 6
                get 20 -1 -> 9
                get 21 -1 -> NoSuchElementException
                count 6 -> 4
                count 7 -> 3
                """);
    }

    /** Promise 10. */
    private static void next() {
        new Run("next").calls("""
                put 0 1 -> 1
                put 20 2 -> 2
                put 63 3 -> 3
                snapshot -> 0
                remove 20 -> 4
                put 30 5 -> 5
                next -2 -1 -> IllegalArgumentException
                next 64 -1 -> IllegalArgumentException
                next 0 -2 -> IllegalArgumentException
                next 0 4 -> IllegalArgumentException
                next 64 1 -> IllegalArgumentException
                next 0 1 -> UnsupportedOperationException
                next 63 1 -> UnsupportedOperationException
                next -1 -1 -> 0
                next 0 -1 -> 30
                next 0 0 -> 20
                next 20 0 -> 63
                next 29 -1 -> 30
                next 30 -1 -> 63
                next 62 -1 -> 63
                next 63 -1 -> NoSuchElementException
                flush -> 1
                spoil 0 0 -> 4
                spoil 0 1 -> 1
                next -1 -1 -> 0
                next 0 -1 -> 30
                next 0 0 -> 20
                next 30 0 -> 63
                put 31 5 -> 6
                next 30 -1 -> 31
                remove 31 -> 7
                next 30 -1 -> 63
                remove 63 -> 8
                next 30 -1 -> NoSuchElementException
                count 6 -> 0
                count 7 -> 0
                count 8 -> 0
                effort -> ArithmeticException
                """);
    }

    /** Promise 11. */
    private static void snapshot() {
        new Run("snapshot").calls("""
                snapshot -> 0
                put 1 10 -> 1
                snapshot -> 1
                put 1 11 -> 2
                snapshot -> 2
                put 1 12 -> 3
                snapshot -> 3
                put 1 13 -> 4
                snapshot -> IllegalStateException
                get 1 0 -> NoSuchElementException
                get 1 1 -> 10
                get 1 2 -> 11
                get 1 3 -> 12
                get 1 -1 -> 13
                release 2 -> 2
                release 1 -> 1
                snapshot -> 1
                get 1 1 -> 13
                snapshot -> 2
                snapshot -> IllegalStateException
                """);
    }

    /** Promise 12. */
    private static void release() {
        new Run("release").calls("""
                release -1 -> IllegalArgumentException
                release 4 -> IllegalArgumentException
                release 0 -> UnsupportedOperationException
                release 3 -> UnsupportedOperationException
                snapshot -> 0
                put 1 1 -> 1
                snapshot -> 1
                release 0 -> 0
                release 0 -> UnsupportedOperationException
                get 1 0 -> UnsupportedOperationException
                get 1 1 -> 1
                release 1 -> 1
                next 0 1 -> UnsupportedOperationException
                """);
    }

    /** Promise 13. */
    private static void spoil() {
        new Run("spoil").puts(1, 6).calls("""
                flush -> 1
                put 1 1 -> 7
                flush -> 2
                spoil -1 0 -> IllegalArgumentException
                spoil 60 0 -> IllegalArgumentException
                spoil 0 -1 -> IllegalArgumentException
                spoil 0 60 -> IllegalArgumentException
                spoil 59 60 -> IllegalArgumentException
                spoil 2 0 -> IndexOutOfBoundsException
                spoil 59 0 -> IndexOutOfBoundsException
                spoil 0 1 -> IndexOutOfBoundsException
                spoil 1 2 -> IndexOutOfBoundsException
                spoil 1 59 -> IndexOutOfBoundsException
                spoil 1 1 -> 2
                table 1 5 -> 1
                table 0 5 -> 0
                spoil 1 1 -> 2
                table 1 5 -> 1
                spoil 1 0 -> 4
                table 1 5 -> 2
                table 1 2 -> 6
                get 1 -1 -> 1
                get 5 -1 -> IllegalStateException
                count 5 -> 0
                """);
        // Where tables stood before they were merged there are none now.
        new Run("spoil behind the last table").again(32, "put 9 1").calls("""
                spoil 1 0 -> IndexOutOfBoundsException
                spoil 0 1 -> IndexOutOfBoundsException
                spoil 0 0 -> 1
                table 0 7 -> 0
                table 1 2 -> IndexOutOfBoundsException
                """);
        // The last three flushes are small, so that all 240 entries meet in one table.
        Run run = new Run("spoil the last of sixty blocks").calls("snapshot -> 0").again(236, "put 9 1");
        run.calls("flush -> 3").again(2, "put 9 2").calls("flush -> 4").again(2, "put 9 3").calls("""
                flush -> 1
                spoil 0 59 -> 4
                get 9 -1 -> 3
                count 6 -> 1
                get 9 0 -> IllegalStateException
                count 6 -> 61
                """).table(0, 39, 1, 240, 9, 9).calls("""
                table 0 15 -> 231
                giveUp -> 4
                get 9 0 -> NoSuchElementException
                count 6 -> 120
                spoil 0 59 -> IndexOutOfBoundsException
                spoil 0 58 -> 4
                """);
    }

    /** Promise 14. */
    private static void giveUp() {
        new Run("give up").puts(10, 16).calls("""
                giveUp -> 0
                open -> 7
                put 17 170 -> 1
                put 18 180 -> 2
                put 19 190 -> 3
                put 20 200 -> 4
                close true -> 11
                spoil 0 0 -> 4
                giveUp -> 4
                giveUp -> 0
                count 0 -> 11
                count 9 -> 1
                count 10 -> 0
                """).table(0, 0, 0, 7, 14, 20).calls("""
                table 0 5 -> 0
                table 0 6 -> 5
                get 13 -1 -> NoSuchElementException
                get 14 -1 -> 140
                next -1 -1 -> 14
                spoil 0 1 -> 3
                get 18 -1 -> IllegalStateException
                get 17 -1 -> 170
                giveUp -> 3
                """).table(0, 0, 0, 4, 14, 17).calls("""
                put 9 90 -> 12
                open -> 12
                spoil 0 0 -> 4
                giveUp -> 4
                count 4 -> 0
                get 9 -1 -> 90
                put 8 80 -> 1
                close true -> 13
                snapshot -> 0
                giveUp -> 0
                get 9 0 -> 90
                """);
    }

    private static void giveUpTidies() {
        new Run("give up tidies").puts(0, 7).calls("spoil 0 1 -> 4").puts(0, 7).puts(0, 7).puts(0, 7).calls("""
                count 5 -> 1
                put 0 5 -> 33
                flush -> 5
                count 10 -> 0
                giveUp -> 4
                count 5 -> 0
                count 10 -> 21
                count 9 -> 7
                count 15 -> -1
                """).levels(0, 2, 0, 0).table(0, 5, 1, 6, 0, 5).table(1, 6, 1, 2, 6, 7);
    }

    /** Promise 15. */
    private static void effort() {
        new Run("effort").calls("""
                effort -> ArithmeticException
                get 1 -1 -> NoSuchElementException
                effort -> 0.0
                put 1 1 -> 1
                flush -> 1
                get 1 -1 -> 1
                effort -> 0.5
                get 1 -1 -> 1
                """).due("effort", 2.0 / 3.0).calls("""
                get 2 -1 -> NoSuchElementException
                effort -> 0.5
                get 1 3 -> UnsupportedOperationException
                effort -> 0.5
                """);
    }

    /** Promise 16. */
    private static void table() {
        new Run("table").puts(30, 33).calls("""
                put 31 1 -> 5
                flush -> 1
                table -1 0 -> IllegalArgumentException
                table 60 0 -> IllegalArgumentException
                table 0 -1 -> IllegalArgumentException
                table 0 16 -> IllegalArgumentException
                table 59 16 -> IllegalArgumentException
                table 1 0 -> IndexOutOfBoundsException
                table 59 15 -> IndexOutOfBoundsException
                """).table(0, 0, 0, 5, 30, 33).calls("""
                table 0 5 -> 0
                table 0 6 -> 1
                table 0 7 -> 5
                table 0 8 -> 2
                table 0 9 -> 3
                table 0 10 -> 4
                table 0 11 -> 0
                table 0 15 -> 0
                """);
    }

    /** Promise 17; the other counts stand in the runs of the calls that change them. */
    private static void count() {
        new Run("count").calls("""
                count -1 -> IllegalArgumentException
                count 17 -> IllegalArgumentException
                open -> 0
                put 1 1 -> 1
                put 2 2 -> 2
                close true -> 2
                put 3 3 -> 3
                sync -> 2
                put 4 4 -> 4
                count 0 -> 4
                count 1 -> 4
                count 2 -> 3
                count 3 -> 2
                count 4 -> 0
                flush -> 1
                get 1 -1 -> 1
                get 4 -1 -> 4
                get 2 -1 -> 2
                count 4 -> 1
                count 5 -> 0
                count 6 -> 3
                count 7 -> 0
                count 8 -> 3
                count 9 -> 1
                count 10 -> 0
                count 11 -> 1
                count 12 -> 0
                """);
    }

    /** Tables are counted by levels, on level 0 by falling numbers, on others by keys. */
    private static void order() {
        Run run = new Run("order of tables").puts(32, 63).puts(0, 31);
        run.levels(0, 3, 5, 4).puts(5, 12).puts(1, 8).levels(2, 3, 5, 4);
        run.table(0, 34, 0, 8, 1, 8).table(1, 33, 0, 8, 5, 12);
        int[] least = {1, 5, 18, 24, 30, 38, 44, 50, 56, 62, 0, 6, 12, 32};
        int[] levels = {0, 0, 1, 1, 1, 2, 2, 2, 2, 2, 3, 3, 3, 3};
        for (int i = 0; i < least.length; i++) {
            run.due("table " + i + " 3", least[i]).due("table " + i + " 1", levels[i]);
        }
        run.due("spoil 1 0", 4).due("table 1 5", 1).due("spoil 4 0", 2).due("table 4 5", 1);
        run.due("get 30 -1", "IllegalStateException").due("spoil 14 0", "IndexOutOfBoundsException");
    }

    private static void tidying() {
        Run run = new Run("tidying").puts(0, 31).due("count 9", 13).due("count 15", 17).due("count 16", -1);
        run.levels(0, 3, 3, 0);
        run.table(0, 7, 1, 6, 18, 23).table(1, 8, 1, 6, 24, 29).table(2, 9, 1, 2, 30, 31);
        run.table(3, 10, 2, 6, 0, 5).table(4, 11, 2, 6, 6, 11).table(5, 12, 2, 6, 12, 17);
        run.puts(32, 63).due("count 9", 33).due("count 15", 49).due("count 16", 23).levels(0, 3, 5, 4);
        run.table(0, 20, 1, 6, 50, 55).table(2, 22, 1, 2, 62, 63);
        run.table(3, 24, 2, 6, 24, 29).table(4, 25, 2, 2, 30, 31).table(7, 28, 2, 6, 44, 49);
        run.table(8, 29, 3, 6, 0, 5).table(11, 32, 3, 6, 18, 23);
        // No key is above pointer 1 once it is at 63: the table with the least keys of all is next.
        run.puts(0, 31).due("count 9", 55).due("count 15", 17).due("count 16", 55).levels(0, 3, 5, 10);
        run.table(0, 40, 1, 6, 18, 23).table(3, 46, 2, 6, 0, 5).table(6, 44, 2, 6, 56, 61);
        run.due("count 10", 0).due("get 0 -1", 0).due("get 63 -1", 630).due("count 5", 0);
        run.due("count 14", 10).due("table 17 3", 50).due("table 18 0", "IndexOutOfBoundsException");
    }

    private static void tidyingAtThePointer() {
        // Pointer 1 is at 17, and the table from 17 on is not above it: the one behind it goes first.
        Run run = new Run("tidying at the pointer").puts(0, 31).due("count 15", 17).puts(17, 17).puts(32, 62);
        run.levels(0, 3, 5, 3).due("count 15", 52).due("count 16", 17).due("count 10", 0);
        run.due("table 0 3", 17).due("table 0 4", 22).due("table 1 3", 53).due("table 2 3", 59).due("table 3 3", 23);
    }

    private static void droppingGone() {
        new Run("dropping what is gone").puts(0, 31).calls("""
                remove 3 -> 33
                flush -> 7
                remove 40 -> 34
                flush -> 8
                remove 20 -> 35
                flush -> 9
                remove 41 -> 36
                flush -> 6
                count 10 -> 4
                """).levels(0, 3, 3, 0).table(0, 17, 1, 6, 3, 23).table(1, 18, 1, 6, 24, 29).calls("""
                table 0 6 -> 33
                table 0 7 -> 19
                table 0 9 -> 22
                get 3 -1 -> NoSuchElementException
                get 20 -1 -> NoSuchElementException
                next 2 -1 -> 4
                next 19 -1 -> 21
                """);
        // A snapshot from before keeps both what is gone and what it hides.
        new Run("keeping what is gone").puts(0, 31).calls("""
                snapshot -> 0
                remove 3 -> 33
                flush -> 7
                remove 40 -> 34
                flush -> 8
                remove 20 -> 35
                flush -> 9
                remove 41 -> 36
                flush -> 6
                count 10 -> 0
                get 20 0 -> 200
                get 3 0 -> 30
                get 20 -1 -> NoSuchElementException
                next 19 0 -> 20
                """).levels(0, 3, 3, 0).table(0, 17, 1, 6, 3, 21).table(2, 19, 1, 6, 28, 41);
    }

    private static void droppingForSnapshots() {
        new Run("dropping up to the oldest snapshot").calls("""
                put 9 1 -> 1
                flush -> 1
                put 9 2 -> 2
                snapshot -> 0
                flush -> 2
                put 9 3 -> 3
                snapshot -> 1
                flush -> 3
                put 9 4 -> 4
                flush -> 1
                count 10 -> 1
                table 0 2 -> 3
                table 0 6 -> 4
                table 0 7 -> 3
                table 0 8 -> 2
                get 9 0 -> 2
                get 9 1 -> 3
                release 0 -> 2
                put 9 5 -> 5
                flush -> 2
                put 9 6 -> 6
                flush -> 3
                put 9 7 -> 7
                flush -> 4
                put 9 8 -> 8
                flush -> 1
                count 10 -> 2
                table 0 2 -> 6
                table 0 11 -> 3
                release 1 -> 3
                put 8 0 -> 9
                flush -> 2
                put 8 0 -> 10
                flush -> 3
                put 8 0 -> 11
                flush -> 4
                put 9 9 -> 12
                flush -> 1
                count 10 -> 10
                table 0 2 -> 2
                table 0 6 -> 11
                table 0 7 -> 12
                """);
    }

    /** A table has six entries or more, and all of a key. */
    private static void tableEnds() {
        Run run = new Run("where a table ends").calls("snapshot -> 0").puts(1, 5).again(19, "put 6 1");
        run.puts(7, 14).levels(0, 3, 0, 0).table(0, 4, 1, 24, 1, 6).table(1, 5, 1, 6, 7, 12);
        run.table(2, 6, 1, 2, 13, 14);
        run.due("count 10", 0);
    }

    private static void stuckOnLevelOne() {
        // The merge to level 1 passes by the spoiled block; that of its table to level 2 does not.
        Run run = new Run("stuck on level 1").puts(0, 31).due("spoil 0 0", 4).puts(32, 63);
        run.levels(0, 9, 3, 0).due("count 5", 1).due("count 15", 17).due("count 16", -1).due("count 9", 23);
        run.puts(0, 31).levels(4, 9, 3, 0).due("count 9", 27).due("giveUp", 4).due("count 5", 0);
        run.due("get 18 -1", 180).due("count 11", 0);
    }

    private static void spoiledAside() {
        // A spoiled block of a table that no merge takes hinders none.
        Run run = new Run("spoiled aside").puts(0, 31).due("spoil 3 0", 4).due("spoil 1 0", 4);
        for (int i = 0; i < 4; i++) {
            run.due("put 19 " + i, 33 + i).due("flush", i < 3 ? 7 + i : 6);
        }
        run.due("count 5", 0).due("count 10", 4).levels(0, 3, 3, 0).due("table 3 5", 1).due("table 1 5", 1);
        for (int i = 0; i < 4; i++) {
            run.due("put 24 " + i, 37 + i).due("flush", 7 + i);
        }
        run.due("count 5", 1).levels(4, 3, 3, 0).due("get 25 -1", "IllegalStateException");
    }
}
