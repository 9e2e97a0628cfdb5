/**
 * A run for each edge that "What it is" names, and "Terms" of entries, memory, the log, tables, their
 * filters, and writing. The name of a run has the sentence's own words.
 */
public final class BoundaryTermsTest {
    private BoundaryTermsTest() {
    }

    public static void main(String[] args) {
        lastCall();
        keys();
        numbers();
        values();
        orderOfEntries();
        mostEntries();
        roomAgain();
        records();
        syncedRecords();
        tableNumbers();
        deepestLevel();
        blocks();
        noEmptyTable();
        ranges();
        rangesApart();
        filterPasses();
        filterDoesNotPass();
        writingWhenFull();
        writingWhileStuck();
        writingAtTheEnd();
        fullMemory();
        flushEmpties();
        flushTidies();
        Run.end("BoundaryTermsTest");
    }

    private static void lastCall() {
        String words = "An object is used for at most 512 calls after it has been made";
        Run.whatItIs(words, "all of them write").again(512, "put 9 1");
        Run.whatItIs(words, "all but two look in vain").calls("put 9 5 -> 1")
                .due(510, "get 8 -1", "NoSuchElementException").due("get 9 -1", 5);
        Run.whatItIs(words, "all but two count").calls("get 9 -1 -> NoSuchElementException")
                .due(510, "count 8", 1).due("effort", 0.0);
        Run.whatItIs(words, "the most are refused").calls("snapshot -> 0").again(240, "put 9 1")
                .due(270, "put 9 2", "IllegalStateException").due("get 9 -1", 1);
        Run crashes = Run.whatItIs(words, "every second one crashes");
        for (int i = 0; i < 256; i++) {
            crashes.calls("put 9 1 -> 1").due("crash 0", 0);
        }
        // Every fourth flush merges its four tables with the one on level 1.
        Run flushes = Run.whatItIs(words, "every second one flushes");
        for (int i = 1; i <= 255; i++) {
            flushes.again(1, "put 9 1").due("flush", i < 4 ? i : i % 4 == 0 ? 1 : i % 4 + 1);
        }
        flushes.again(1, "put 9 1").due("count 9", 255 + 63);
    }

    private static void keys() {
        Run.terms("a KEY 0 .. 63", "both ends on their way down").puts(0, 63).levels(0, 3, 5, 4).calls("""
                table 2 4 -> 63
                table 8 3 -> 0
                get 0 -1 -> 0
                get 63 -1 -> 630
                next -1 -1 -> 0
                next 62 -1 -> 63
                """);
        Run.terms("a KEY 0 .. 63", "both ends in one table").flushed(1, 0, 63).flushed(2, 63, 0).flushed(3, 0, 63)
                .flushed(1, 0, 63).table(0, 4, 1, 2, 0, 63).entries(0, 7, 8).due("count 10", 6);
    }

    private static void numbers() {
        String words = "a NUMBER (rising from 1 in the order in which they are written, each once)";
        Run.terms(words, "what is not written takes none").calls("""
                count 0 -> 0
                put 64 1 -> IllegalArgumentException
                open -> 0
                put 9 1 -> 1
                close false -> 0
                put 9 1 -> 1
                remove 9 -> 2
                open -> 2
                put 9 3 -> 1
                remove 8 -> 2
                put 9 4 -> 3
                close true -> 5
                open -> 5
                close true -> 5
                put 7 6 -> 6
                flush -> 1
                """).entries(0, 6, 4, 5, 3, 2, 1);
    }

    private static void values() {
        String kept = """
                get 1 -1 -> -2147483648
                get 2 -1 -> 2147483647
                get 3 -1 -> 0
                get 4 -1 -> -1
                get 5 -1 -> NoSuchElementException
                """;
        Run.terms("a VALUE, an int, or GONE", "the least and the greatest int in memory and in tables").calls("""
                put 1 -2147483648 -> 1
                put 2 2147483647 -> 2
                put 3 0 -> 3
                put 4 -1 -> 4
                remove 5 -> 5
                """).calls(kept).due("flush", 1).calls(kept).from(5).flushed(2, 5).due("get 5 -1", 50)
                .calls("remove 5 -> 7").from(7).flushed(3, 6).flushed(1, 6).calls(kept).levels(0, 1, 0, 0)
                .entries(0, 1, 2, 3, 4, 9);
    }

    private static void orderOfEntries() {
        String words = "The order of ENTRIES: by rising KEYS, those of one KEY by falling NUMBERS";
        Run.terms(words, "in a table from memory").flushed(1, 63, 0, 63, 0, 31).entries(0, 4, 2, 5, 3, 1);
        Run.terms(words, "in a table of one key").flushed(1, 9, 9, 9).entries(0, 3, 2, 1);
        Run.terms(words, "in a table from others").calls("snapshot -> 0").flushed(1, 63, 0).flushed(2, 63, 0)
                .flushed(3, 0, 63).flushed(1, 63, 0).entries(0, 8, 5, 4, 2, 7, 6, 3, 1);
    }

    private static void mostEntries() {
        String words = "At most 240 ENTRIES are in MEMORY and TABLES together";
        Run.terms(words, "all in tables").calls("snapshot -> 0").again(240, "put 9 1").calls("""
                count 1 -> 0
                put 9 1 -> IllegalStateException
                count 0 -> 240
                """);
        Run.terms(words, "seven of them in memory").calls("snapshot -> 0").flushed(1, 9).again(239, "put 9 1").calls("""
                count 1 -> 7
                put 9 1 -> IllegalStateException
                remove 9 -> IllegalStateException
                count 1 -> 7
                flush -> 4
                put 9 1 -> IllegalStateException
                count 0 -> 240
                """);
    }

    private static void roomAgain() {
        String words = "At most 240 ENTRIES are in MEMORY and TABLES together";
        Run.terms(words, "room again once some are dropped").calls("snapshot -> 0").flushed(1, 9).flushed(2, 9)
                .again(238, "put 9 1").calls("""
                put 9 1 -> IllegalStateException
                release 0 -> 0
                put 9 1 -> IllegalStateException
                flush -> 1
                count 10 -> 239
                put 9 1 -> 241
                """);
        Run.terms(words, "room again once a crash has lost some").calls("snapshot -> 0").flushed(1, 9)
                .again(239, "put 9 1").calls("""
                put 9 1 -> IllegalStateException
                crash 1 -> 1
                count 0 -> 234
                """).from(234).again(6, "put 9 1").calls("""
                put 9 1 -> IllegalStateException
                count 1 -> 7
                """);
        Run.terms(words, "room again once some are given up").calls("snapshot -> 0").again(240, "put 9 1").calls("""
                spoil 0 0 -> 4
                put 9 1 -> IllegalStateException
                giveUp -> 4
                """).from(240).again(4, "put 9 1").calls("""
                put 9 1 -> IllegalStateException
                count 0 -> 244
                """);
    }

    private static void records() {
        Run.terms("the LOG holds RECORDS, each of 1 to 4 ENTRIES", "none, one, four and five").calls("""
                open -> 0
                close true -> 0
                count 2 -> 0
                open -> 0
                put 1 1 -> 1
                close true -> 1
                count 2 -> 1
                open -> 1
                put 1 1 -> 1
                put 2 2 -> 2
                remove 3 -> 3
                put 4 4 -> 4
                put 5 5 -> UnsupportedOperationException
                close true -> 5
                count 2 -> 2
                count 1 -> 5
                put 6 6 -> 6
                count 2 -> 3
                crash 2 -> 2
                count 1 -> 5
                """);
    }

    private static void syncedRecords() {
        Run.terms("so many of its first RECORDS are SYNCED", "none, the first ones, all").calls("""
                put 1 1 -> 1
                count 3 -> 0
                put 2 2 -> 2
                sync -> 2
                put 3 3 -> 3
                count 3 -> 2
                crash 0 -> 2
                count 3 -> 2
                get 1 -1 -> 1
                get 2 -1 -> 2
                get 3 -1 -> NoSuchElementException
                """);
    }

    private static void tableNumbers() {
        Run.terms("TABLES have a TABLE NUMBER (rising from 0 as they are made)", "none comes again").flushed(1, 9)
                .table(0, 0, 0, 1, 9, 9).calls("""
                spoil 0 0 -> 1
                giveUp -> 1
                """).flushed(1, 9).table(0, 1, 0, 1, 9, 9).calls("""
                put 9 1 -> 3
                crash 0 -> 0
                """).from(2).flushed(2, 9).table(0, 2, 0, 1, 9, 9).flushed(3, 9).flushed(1, 9)
                .table(0, 5, 1, 1, 9, 9).due("count 9", 6);
    }

    private static void deepestLevel() {
        // How many there are in the end is PlainStore's answer, not counted by hand.
        Run.terms("a LEVEL 0 .. 3", "the last level takes all and gives none").puts(0, 63).puts(0, 63)
                .levels(0, 3, 5, 12);
    }

    private static void blocks() {
        String words = "hold one or more ENTRIES in order, in BLOCKS of four (the last one may have fewer)";
        Run.terms(words, "one entry").flushed(1, 9).calls("""
                spoil 0 0 -> 1
                spoil 0 1 -> IndexOutOfBoundsException
                """);
        Run.terms(words, "four entries").flushed(1, 1, 2, 3, 4).calls("""
                spoil 0 0 -> 4
                spoil 0 1 -> IndexOutOfBoundsException
                """);
        Run.terms(words, "five entries").flushed(1, 1, 2, 3, 4, 5).calls("""
                spoil 0 0 -> 4
                spoil 0 1 -> 1
                spoil 0 2 -> IndexOutOfBoundsException
                """);
        Run.terms(words, "eight entries").puts(1, 8).calls("""
                spoil 0 0 -> 4
                spoil 0 1 -> 4
                spoil 0 2 -> IndexOutOfBoundsException
                """);
        Run.terms(words, "eleven entries").puts(1, 7).calls("""
                open -> 7
                put 8 8 -> 1
                put 9 9 -> 2
                put 10 10 -> 3
                put 11 11 -> 4
                close true -> 11
                spoil 0 1 -> 4
                spoil 0 2 -> 3
                spoil 0 3 -> IndexOutOfBoundsException
                get 4 -1 -> 40
                get 5 -1 -> IllegalStateException
                get 8 -1 -> IllegalStateException
                get 9 -1 -> IllegalStateException
                """);
    }

    private static void noEmptyTable() {
        String words = "hold one or more ENTRIES";
        Run.terms(words, "a merge that drops all makes no table").calls("""
                put 9 1 -> 1
                flush -> 1
                remove 8 -> 2
                flush -> 2
                remove 9 -> 3
                flush -> 3
                remove 9 -> 4
                flush -> 0
                count 9 -> 4
                count 10 -> 4
                table 0 0 -> IndexOutOfBoundsException
                spoil 0 0 -> IndexOutOfBoundsException
                """).levels(0, 0, 0, 0);
    }

    private static void ranges() {
        String words = "The RANGE of a TABLE is from its least KEY to its greatest";
        // The filter passes 4 as it passes 20, and 26 as 10; neither key is in the range.
        Run.terms(words, "its ends and those beside them").flushed(1, 10, 20).calls("""
                get 9 -1 -> NoSuchElementException
                get 21 -1 -> NoSuchElementException
                get 4 -1 -> NoSuchElementException
                get 26 -1 -> NoSuchElementException
                count 6 -> 0
                count 7 -> 0
                get 10 -1 -> 100
                get 20 -1 -> 200
                count 6 -> 2
                get 11 -1 -> NoSuchElementException
                get 19 -1 -> NoSuchElementException
                count 7 -> 2
                """);
        Run.terms(words, "one key").flushed(1, 30).calls("""
                table 0 3 -> 30
                table 0 4 -> 30
                get 14 -1 -> NoSuchElementException
                get 46 -1 -> NoSuchElementException
                get 29 -1 -> NoSuchElementException
                get 31 -1 -> NoSuchElementException
                count 6 -> 0
                count 7 -> 0
                get 30 -1 -> 300
                count 6 -> 1
                """);
    }

    private static void rangesApart() {
        String words = "no KEY lies in the RANGES of two TABLES";
        Run.terms(words, "one key may make a table long").calls("snapshot -> 0").again(16, "put 20 1")
                .again(16, "put 21 1").levels(0, 2, 0, 0).table(0, 4, 1, 16, 20, 20).table(1, 5, 1, 16, 21, 21);
    }

    /* Marks of a key k, (7 k + 3) % 16 and (5 k + 1) % 16: 0 has 3 and 1, 1 has 10 and 6, 2 has 1 and 11,
       5 has 6 and 10, 8 has 11 and 9, 10 has 9 and 3, 63 has 12 and 12, 31 too. */

    private static void filterPasses() {
        String words = "The FILTER of a TABLE: PASSES a KEY k if some KEYS j and i in it have";
        Run.terms(words, "j and i are one key, 16 apart from k").flushed(1, 0, 63).calls("""
                get 16 -1 -> NoSuchElementException
                get 47 -1 -> NoSuchElementException
                get 48 -1 -> NoSuchElementException
                count 6 -> 3
                count 7 -> 0
                """);
        Run.terms(words, "j and i are one key with the marks of k crosswise").flushed(1, 1, 31).calls("""
                get 5 -1 -> NoSuchElementException
                get 21 -1 -> NoSuchElementException
                count 6 -> 2
                count 7 -> 0
                """);
        Run.terms(words, "j and i are two keys").flushed(1, 0, 8, 63).calls("""
                get 2 -1 -> NoSuchElementException
                get 10 -1 -> NoSuchElementException
                count 6 -> 2
                count 7 -> 0
                """);
    }

    private static void filterDoesNotPass() {
        String first = "(7 j + 3) % 16 or (5 j + 1) % 16 equal to (7 k + 3) % 16";
        Run.terms(first, "without such a j").flushed(1, 0, 63).calls("""
                get 10 -1 -> NoSuchElementException
                get 58 -1 -> NoSuchElementException
                count 6 -> 0
                count 7 -> 2
                """);
        String second = "(7 i + 3) % 16 or (5 i + 1) % 16 equal to (5 k + 1) % 16";
        Run.terms(second, "without such an i").flushed(1, 0, 63).calls("""
                get 2 -1 -> NoSuchElementException
                get 50 -1 -> NoSuchElementException
                count 6 -> 0
                count 7 -> 2
                """);
        Run.terms(second, "without either").flushed(1, 0, 63).calls("""
                get 1 -1 -> NoSuchElementException
                get 62 -1 -> NoSuchElementException
                count 6 -> 0
                count 7 -> 2
                """);
    }

    private static void writingWhenFull() {
        String words = "TO WRITE a RECORD: there would be more than 240 ENTRIES";
        String batchOfFour = """
                put 1 1 -> 1
                put 2 2 -> 2
                put 3 3 -> 3
                put 4 4 -> 4
                """;
        Run.terms(words, "a record of four makes just 240").calls("snapshot -> 0").again(236, "put 9 1")
                .due("open", 236).calls(batchOfFour).calls("""
                close true -> 240
                put 9 1 -> IllegalStateException
                get 4 -1 -> 4
                """);
        Run.terms(words, "a record of four would make 241").calls("snapshot -> 0").again(237, "put 9 1")
                .due("open", 237).calls(batchOfFour).calls("""
                close true -> IllegalStateException
                count 0 -> 237
                count 1 -> 5
                count 2 -> 5
                close false -> 237
                """).again(3, "put 9 1").due("put 9 1", "IllegalStateException").due("count 0", 240);
    }

    private static void writingWhileStuck() {
        String words = "or the store is STUCK and LEVEL 0 has 8 TABLES: IllegalStateException";
        Run.terms(words, "seven tables").stuck(7).puts(0, 6).calls("""
                count 1 -> 7
                put 7 70 -> 64
                """).levels(8, 0, 0, 0).due("put 7 1", "IllegalStateException");
        Run.terms(words, "eight tables").stuck(8).calls("""
                put 9 1 -> IllegalStateException
                remove 9 -> IllegalStateException
                open -> 64
                put 9 1 -> 1
                close true -> IllegalStateException
                count 0 -> 64
                count 1 -> 0
                count 2 -> 0
                """).levels(8, 0, 0, 0);
        Run.terms(words, "eight tables, and a batch fills the last").stuck(7).puts(0, 6).calls("""
                open -> 63
                put 8 1 -> 1
                put 9 2 -> 2
                close true -> 65
                put 9 3 -> IllegalStateException
                get 9 -1 -> 2
                """).levels(8, 0, 0, 0).due("table 0 2", 9);
        Run.terms(words, "eight tables, no more stuck").stuck(8).calls("""
                giveUp -> 4
                put 9 1 -> 65
                """);
    }

    private static void writingAtTheEnd() {
        Run.terms("It is at the LOG's end, its ENTRIES are in MEMORY", "what a crash leaves are the first").calls("""
                put 5 1 -> 1
                open -> 1
                put 5 2 -> 1
                remove 6 -> 2
                close true -> 3
                put 5 4 -> 4
                count 1 -> 4
                count 2 -> 3
                get 5 -1 -> 4
                crash 2 -> 2
                get 5 -1 -> 2
                put 6 1 -> 4
                crash 0 -> 2
                get 5 -1 -> 2
                get 6 -1 -> NoSuchElementException
                """);
    }

    private static void fullMemory() {
        String words = "If MEMORY has 8 or more: FLUSH";
        Run.terms(words, "seven").puts(1, 7).calls("""
                count 1 -> 7
                count 4 -> 0
                """);
        Run.terms(words, "eight by single records").puts(1, 8).calls("""
                count 1 -> 0
                count 4 -> 1
                table 0 2 -> 8
                """);
        Run.terms(words, "eight by one key").again(8, "remove 9").calls("""
                count 1 -> 0
                table 0 2 -> 8
                """);
        for (int before = 3; before <= 7; before++) {
            Run run = Run.terms(words, before + " and a record of four").puts(1, before).due("open", before).calls("""
                    put 20 1 -> 1
                    put 20 2 -> 2
                    put 20 3 -> 3
                    put 21 4 -> 4
                    """);
            run.due("count 1", before).due("close true", before + 4);
            run.due("count 1", before < 4 ? 7 : 0).due("count 4", before < 4 ? 0 : 1);
            run.due("table 0 2", before < 4 ? "IndexOutOfBoundsException" : before + 4).due("get 20 -1", 3);
        }
    }

    private static void flushEmpties() {
        String words = "they become a TABLE on LEVEL 0, MEMORY and LOG are empty";
        Run.terms(words, "nothing is left to sync, to lose or to flush").puts(1, 3).due("sync", 3).puts(4, 8).calls("""
                count 1 -> 0
                count 2 -> 0
                count 3 -> 0
                sync -> 0
                crash 0 -> 0
                crash 100 -> 0
                flush -> UnsupportedOperationException
                get 8 -1 -> 80
                """).levels(1, 0, 0, 0);
    }

    private static void flushTidies() {
        String words = "then, if the store is not STUCK, it is TIDIED";
        Run.terms(words, "not stuck").puts(0, 31).levels(0, 3, 3, 0);
        Run.terms(words, "stuck").stuck(4).puts(0, 7).levels(5, 0, 0, 0).flushed(6, 20).levels(6, 0, 0, 0);
        // What the block of the oldest table hinders stays where it is, level 1 too.
        Run.terms(words, "stuck with too many tables on level 1").puts(0, 31).due("spoil 0 0", 4).puts(32, 63)
                .levels(0, 9, 3, 0).puts(0, 7).levels(1, 9, 3, 0);
    }
}
