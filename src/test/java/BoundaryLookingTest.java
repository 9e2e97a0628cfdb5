/**
 * A run for each edge that "Terms" names of snapshots and of looking for a key: what is found, what is
 * read, what is a miss. The name of a run has the sentence's own words.
 */
public final class BoundaryLookingTest {
    private BoundaryLookingTest() {
    }

    public static void main(String[] args) {
        freeAtFirst();
        upToANumber();
        memoryFirst();
        levelZeroNewestFirst();
        levelsDownward();
        outOfRange();
        missAndNoMore();
        firstBlock();
        asLongAsNeeded();
        spoiled();
        lastBlock();
        Run.end("BoundaryLookingTest");
    }

    private static void freeAtFirst() {
        String words = "SNAPSHOTS 0 .. 3 each are free (at first), or have a NUMBER";
        Run run = Run.terms(words, "all free, then none").puts(9, 9);
        for (int snapshot = 0; snapshot <= 3; snapshot++) {
            run.due("get 9 " + snapshot, "UnsupportedOperationException");
            run.due("next 0 " + snapshot, "UnsupportedOperationException");
            run.due("release " + snapshot, "UnsupportedOperationException");
        }
        for (int snapshot = 0; snapshot <= 3; snapshot++) {
            run.due("snapshot", snapshot);
        }
        for (int snapshot = 0; snapshot <= 3; snapshot++) {
            run.due("get 9 " + snapshot, 90).due("next 0 " + snapshot, 9);
        }
        run.due("snapshot", "IllegalStateException").due("release 3", 1).due("get 9 3", "UnsupportedOperationException");
    }

    private static void upToANumber() {
        String words = "the ENTRY of that KEY with the greatest NUMBER not above n";
        String seen = """
                get 9 0 -> NoSuchElementException
                get 9 1 -> 10
                get 9 2 -> 20
                get 9 3 -> 20
                get 9 -1 -> 40
                """;
        // Snapshot 0 has number 0, snapshot 3 one between two entries of the key.
        Run.terms(words, "n is 0, a number of the key, one between two, the latest").calls("""
                snapshot -> 0
                put 9 10 -> 1
                snapshot -> 1
                put 9 20 -> 2
                snapshot -> 2
                put 8 30 -> 3
                snapshot -> 3
                put 9 40 -> 4
                """).calls(seen).due("flush", 1).calls(seen).from(4).flushed(2, 1).flushed(3, 2).flushed(1, 3)
                .levels(0, 1, 0, 0).calls(seen);
        Run.terms(words, "a batch is not seen before it is written").calls("""
                put 9 1 -> 1
                open -> 1
                put 9 2 -> 1
                put 8 2 -> 2
                get 9 -1 -> 1
                get 8 -1 -> NoSuchElementException
                close true -> 3
                get 9 -1 -> 2
                """);
    }

    private static void memoryFirst() {
        String words = "first in MEMORY; without one there, in the TABLES of LEVEL 0";
        Run.terms(words, "one in memory is enough").flushed(1, 9).calls("""
                put 9 2 -> 2
                spoil 0 0 -> 1
                get 9 -1 -> 2
                remove 9 -> 3
                get 9 -1 -> NoSuchElementException
                count 6 -> 0
                count 7 -> 0
                """);
        Run.terms(words, "those in memory are above n").flushed(1, 9).calls("""
                snapshot -> 0
                put 9 2 -> 2
                get 9 0 -> 90
                count 6 -> 1
                get 9 -1 -> 2
                count 6 -> 1
                """);
    }

    private static void levelZeroNewestFirst() {
        String words = "in the TABLES of LEVEL 0 by falling TABLE NUMBERS";
        Run.terms(words, "found in the newest, and behind it").flushed(1, 9).calls("""
                snapshot -> 0
                put 9 2 -> 2
                flush -> 2
                get 9 -1 -> 2
                count 6 -> 1
                get 9 0 -> 90
                count 6 -> 3
                spoil 0 0 -> 1
                get 9 0 -> IllegalStateException
                count 6 -> 4
                """);
        Run.terms(words, "gone in the newest").flushed(1, 9).calls("""
                remove 9 -> 2
                flush -> 2
                get 9 -1 -> NoSuchElementException
                count 6 -> 1
                """);
    }

    private static void levelsDownward() {
        String words = "then of LEVELS 1, 2, 3, as far as the KEY is in their RANGE, until one is found";
        // Level 3 has the keys 0 - 23, level 2 those up to 49, level 1 the others; a last table has 0 and 63,
        // whose filter passes 16 and 48, but neither 20 nor 50.
        Run.terms(words, "one on each level").puts(0, 63).levels(0, 3, 5, 4).calls("""
                get 0 -1 -> 0
                get 23 -1 -> 230
                get 24 -1 -> 240
                get 49 -1 -> 490
                get 50 -1 -> 500
                get 63 -1 -> 630
                count 6 -> 6
                count 7 -> 0
                """).flushed(13, 0, 63).calls("""
                get 0 -1 -> 0
                count 6 -> 7
                get 16 -1 -> 160
                count 6 -> 9
                get 48 -1 -> 480
                count 6 -> 11
                count 7 -> 0
                get 20 -1 -> 200
                get 50 -1 -> 500
                count 6 -> 13
                count 7 -> 2
                """);
        // Key 0 on level 2 is number 1, that on level 1 number 36.
        Run.terms(words, "the upper level hides the lower one").puts(0, 31).calls("snapshot -> 0").again(1, "put 0 7")
                .due("flush", 7).again(1, "put 0 8").due("flush", 8).again(1, "put 0 9").due("flush", 9)
                .again(1, "remove 0").due("flush", 7).calls("""
                get 0 -1 -> NoSuchElementException
                count 6 -> 1
                get 0 0 -> 0
                count 6 -> 3
                """);
    }

    private static void outOfRange() {
        String words = "as far as the KEY is in their RANGE";
        // Even keys alone: level 2 has 0 - 10, 12 - 22 and 24 - 34; no filter of even keys passes an odd one.
        Run even = Run.terms(words, "between two ranges, and between two keys of one");
        for (int key = 0; key <= 62; key += 2) {
            even.puts(key, key);
        }
        even.levels(0, 3, 3, 0).calls("""
                get 11 -1 -> NoSuchElementException
                get 23 -1 -> NoSuchElementException
                get 35 -1 -> NoSuchElementException
                get 63 -1 -> NoSuchElementException
                count 7 -> 0
                get 9 -1 -> NoSuchElementException
                get 61 -1 -> NoSuchElementException
                count 7 -> 2
                count 6 -> 0
                """);
    }

    private static void missAndNoMore() {
        String words = "the FILTER does not PASS: a MISS, no more";
        Run.terms(words, "not even a spoiled block is read").flushed(1, 0, 63).calls("""
                spoil 0 0 -> 2
                get 2 -1 -> NoSuchElementException
                count 6 -> 0
                count 7 -> 1
                count 8 -> 1
                get 16 -1 -> IllegalStateException
                count 6 -> 1
                count 7 -> 1
                """);
        Run.terms(words, "one in every table").flushed(1, 0, 63).flushed(2, 0, 63).flushed(3, 0, 63).calls("""
                get 2 -1 -> NoSuchElementException
                count 7 -> 3
                count 6 -> 0
                """);
    }

    private static void firstBlock() {
        String words = "from the first that has a KEY not below this one on";
        // Blocks: 1 2 3 4, 6 7 8 9. The filter passes 5.
        Run.terms(words, "the last key of a block, the first of the next, and between").puts(1, 4).puts(6, 9).calls("""
                get 4 -1 -> 40
                get 6 -1 -> 60
                get 5 -1 -> NoSuchElementException
                get 1 -1 -> 10
                get 9 -1 -> 90
                count 6 -> 5
                spoil 0 0 -> 4
                get 6 -1 -> 60
                get 5 -1 -> NoSuchElementException
                count 6 -> 7
                get 4 -1 -> IllegalStateException
                """);
    }

    private static void asLongAsNeeded() {
        String words = "as long as needed, are READ, each counts";
        // Blocks: 8 7 6 5, 4 3 2 1 by number, all of key 9.
        Run.terms(words, "through all blocks of one key").puts(9, 9).due("snapshot", 0).again(3, "put 9 1")
                .due("snapshot", 1).again(1, "put 9 5").due("snapshot", 2).again(3, "put 9 8").calls("""
                get 9 -1 -> 8
                count 6 -> 1
                get 9 2 -> 5
                count 6 -> 2
                get 9 1 -> 1
                count 6 -> 4
                get 9 0 -> 90
                count 6 -> 6
                """);
        Run.terms(words, "to the end of the table, in vain").calls("snapshot -> 0").again(8, "put 9 1").calls("""
                get 9 0 -> NoSuchElementException
                count 6 -> 2
                """);
    }

    private static void spoiled() {
        String words = "SPOILED: IllegalStateException (the READ counts)";
        Run.terms(words, "the first block that is read").flushed(1, 9).calls("""
                spoil 0 0 -> 1
                get 9 -1 -> IllegalStateException
                get 9 -1 -> IllegalStateException
                count 6 -> 2
                count 8 -> 2
                effort -> 1.0
                """);
        Run.terms(words, "the second block that is read").calls("snapshot -> 0").again(8, "put 9 1").calls("""
                spoil 0 1 -> 4
                get 9 0 -> IllegalStateException
                count 6 -> 2
                get 9 -1 -> 1
                count 6 -> 3
                """);
        Run.terms(words, "no older table is looked in then").flushed(1, 9).flushed(2, 9).calls("""
                spoil 0 0 -> 1
                get 9 -1 -> IllegalStateException
                count 6 -> 1
                """);
    }

    private static void lastBlock() {
        String words = "one that has the ENTRY, or a greater KEY, is the last";
        // Blocks: four entries of 5, then the fifth with 6.
        Run.terms(words, "the entry is in the first of two blocks").puts(5, 5).due("snapshot", 0).again(4, "put 5 2")
                .puts(6, 6).due("flush", 1).calls("""
                spoil 0 1 -> 2
                get 5 -1 -> 2
                count 6 -> 1
                get 5 0 -> IllegalStateException
                count 6 -> 3
                """);
        // Block 0 has 5 5 5 6, so that it is the last for 5; with 5 5 5 5 it would not be.
        Run.terms(words, "a greater key at the end of a block").calls("snapshot -> 0").again(3, "put 5 1").puts(6, 6)
                .puts(7, 7).due("flush", 1).calls("""
                spoil 0 1 -> 1
                get 5 0 -> NoSuchElementException
                count 6 -> 1
                """);
        Run.terms(words, "a greater key at the start of the next block").calls("snapshot -> 0").again(4, "put 5 1")
                .puts(6, 6).due("flush", 1).calls("""
                get 5 0 -> NoSuchElementException
                count 6 -> 2
                spoil 0 1 -> 1
                get 5 0 -> IllegalStateException
                count 6 -> 4
                """);
        // The filter passes 5 for the sake of key 1; block 0 has a greater key.
        Run.terms(words, "a greater key, and none like this").flushed(1, 1, 6, 7, 8, 9).calls("""
                spoil 0 1 -> 1
                get 5 -1 -> NoSuchElementException
                count 6 -> 1
                """);
    }
}
