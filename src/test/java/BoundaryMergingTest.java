/**
 * A run for each edge that "Terms" names of tidying, merging, dropping and the oldest number. The name
 * of a run has the sentence's own words.
 */
public final class BoundaryMergingTest {
    private static final String SPAN = "with them go the TABLES of that LEVEL whose RANGE has something in common with "
            + "the span from the least to the greatest KEY of all of them";
    private static final String SPOILED =
            "If any of their BLOCKS is SPOILED: nothing is done (no POINTER changes), the store is STUCK, and TIDYING is over";
    private static final String OLDER = "Dropped are: an ENTRY if there is one of the same KEY among them that has a "
            + "greater NUMBER, which is not above OLDEST";
    private static final String GONE = "and one that is GONE, has a NUMBER not above OLDEST, and whose KEY lies in no "
            + "RANGE of a TABLE of a deeper LEVEL";

    private BoundaryMergingTest() {
    }

    public static void main(String[] args) {
        levelZero();
        levelOne();
        levelTwo();
        firstThatApplies();
        abovePointer();
        noneAbovePointer();
        pointerMoves();
        spanBeside();
        spanTouches();
        spanAround();
        spoiledAmongThem();
        spoiledBesideThem();
        stuckLeavesPointers();
        stuckOnTheWayToLevelTwo();
        stuckEndsTidying();
        tableEnds();
        tableEndsAtAKey();
        oldOnes();
        olderOnes();
        olderOnesElsewhere();
        goneUpToOldest();
        goneAboveDeeperRanges();
        goneOverTheLastLevel();
        oldest();
        oldestAsSnapshotsGo();
        Run.end("BoundaryMergingTest");
    }

    private static void levelZero() {
        String words = "LEVEL 0 has 4 TABLES or more: all of them are MERGED to LEVEL 1";
        Run.terms(words, "three").flushed(1, 1).flushed(2, 2).flushed(3, 3).levels(3, 0, 0, 0);
        Run.terms(words, "four").flushed(1, 1).flushed(2, 2).flushed(3, 3).flushed(1, 4).levels(0, 1, 0, 0)
                .table(0, 4, 1, 4, 1, 4);
        for (int tables = 4; tables <= 8; tables++) {
            Run.terms(words, tables + ", once no more stuck").stuck(tables).due("giveUp", 4).levels(0, 2, 0, 0)
                    .table(0, tables, 1, 6, 0, 5).table(1, tables + 1, 1, 2, 6, 7)
                    .due("count 10", 8 * tables - 4 - 8);
        }
    }

    private static void levelOne() {
        String words = "LEVEL l, 1 and then 2, has more than 2 l + 1 TABLES: one of them is MERGED to LEVEL l + 1";
        Run.terms(words, "three tables on level 1").flushed(1, 0, 1, 2, 3, 4).flushed(2, 5, 6, 7, 8, 9)
                .flushed(3, 10, 11, 12, 13).flushed(3, 14, 15, 16, 17).levels(0, 3, 0, 0).due("count 15", -1);
        Run.terms(words, "four tables on level 1").flushed(1, 0, 1, 2, 3, 4).flushed(2, 5, 6, 7, 8, 9)
                .flushed(3, 10, 11, 12, 13).flushed(4, 14, 15, 16, 17, 18).levels(0, 3, 1, 0).due("count 15", 5)
                .table(0, 5, 1, 6, 6, 11).table(3, 8, 2, 6, 0, 5).due("count 9", 9);
    }

    /** Three tables on level 1, from 30 on, and five on level 2, up to 29. */
    private static Run fiveOnLevelTwo(Run run) {
        return run.puts(0, 31).flushed(7, 32, 33, 34).flushed(8, 35, 36, 37).flushed(9, 38, 39, 40)
                .flushed(8, 41, 42, 43).levels(0, 3, 5, 0);
    }

    private static void levelTwo() {
        String words = "LEVEL l, 1 and then 2, has more than 2 l + 1 TABLES: one of them is MERGED to LEVEL l + 1";
        fiveOnLevelTwo(Run.terms(words, "five tables on level 2")).due("count 15", 29).due("count 16", -1);
        Run.terms(words, "six tables on level 2").puts(0, 31).flushed(7, 32, 33, 34).flushed(8, 35, 36, 37)
                .flushed(9, 38, 39, 40).flushed(9, 41, 42, 43, 44).levels(0, 3, 5, 1).due("count 15", 31)
                .due("count 16", 5).table(8, 23, 3, 6, 0, 5);
    }

    private static void firstThatApplies() {
        String words = "TIDYING, again and again the first of these that applies";
        // Level 1 gives two tables before level 2 gives any: the numbers of the tables tell.
        fiveOnLevelTwo(Run.terms(words, "level 1 goes before level 2")).flushed(9, 44, 45, 46)
                .flushed(10, 47, 48, 49).flushed(11, 50, 51, 52).flushed(10, 53, 54, 55).levels(0, 3, 5, 2)
                .table(6, 27, 2, 2, 30, 31).table(7, 28, 2, 6, 32, 37).table(8, 29, 3, 6, 0, 5)
                .table(9, 30, 3, 6, 6, 11).due("count 15", 37).due("count 16", 11);
        Run.terms("None applies: that is all", "nothing to merge").flushed(1, 1).calls("giveUp -> 0")
                .levels(1, 0, 0, 0).table(0, 0, 0, 1, 1, 1);
    }

    private static void abovePointer() {
        String words = "that with the least KEYS of those whose least KEY is above POINTER l (-1 at first)";
        Run.terms(words, "key 0 is above the first pointer").due("count 15", -1).due("count 16", -1).puts(0, 31)
                .due("count 15", 17).table(3, 10, 2, 6, 0, 5);
        // The table from 17 on is not above the pointer at 17: the one behind it goes first.
        Run.terms(words, "the least key is at the pointer").puts(0, 31).due("count 15", 17).puts(17, 17)
                .puts(32, 62).levels(0, 3, 5, 3).due("count 15", 52).due("table 0 3", 17).due("table 0 4", 22)
                .due("table 1 3", 53).due("table 2 3", 59).due("table 3 3", 23);
        // The table from 18 on is above the pointer at 17, and goes first.
        Run.terms(words, "the least key is next to the pointer").puts(0, 31).due("count 15", 17).puts(18, 18)
                .puts(32, 62).levels(0, 3, 5, 3).due("count 15", 47).due("table 0 3", 48).due("table 3 3", 18);
    }

    private static void noneAbovePointer() {
        String words = "or of all, if there is none";
        Run run = Run.terms(words, "pointer 1 comes round").puts(0, 31).flushed(7, 0, 1, 2).flushed(8, 3, 4, 5)
                .flushed(9, 6, 7, 8).flushed(8, 9, 10, 11).due("count 15", 29).flushed(9, 12).flushed(10, 13)
                .flushed(11, 14, 15).flushed(9, 16, 17).due("count 15", 31).due("count 16", 5);
        // Now level 1 has 0 - 5, 6 - 11 and 12 - 17, and no key of it is above 31.
        run.flushed(10, 18).flushed(11, 19).flushed(12, 20, 21).flushed(10, 22, 23).due("count 15", 5)
                .levels(0, 3, 5, 2).due("table 0 3", 6).due("table 2 3", 18).due("table 3 3", 0).due("count 16", 11);
        Run again = Run.terms(words, "pointer 2 comes round").puts(0, 63).puts(0, 31).due("count 16", 55);
        again.puts(0, 31).due("count 16", 5);
    }

    private static void pointerMoves() {
        String words = "POINTER l becomes its greatest KEY";
        // For a snapshot all is kept at first; once it is released nothing is left of the table from 0 to 5.
        Run.terms(words, "all that it had is dropped").due("snapshot", 0).flushedGone(1, 0, 1, 2, 3)
                .flushedGone(2, 4, 5, 6, 7, 8).flushedGone(3, 9, 10, 11, 12).flushedGone(3, 13, 14, 15, 16, 17)
                .levels(0, 3, 0, 0).due("count 10", 0).due("count 15", -1).due("release 0", 0).flushed(4, 30)
                .flushed(5, 30).flushed(6, 30).flushed(3, 30).levels(0, 3, 0, 0).due("count 15", 5)
                .due("count 10", 9).due("table 0 3", 6);
    }

    /** Two tables on level 1, number 4 with the keys 10 - 15 and number 5 with 20 - 25. */
    private static Run twoOnLevelOne(String words, String edge) {
        return Run.terms(words, edge).flushed(1, 10, 11, 12).flushed(2, 13, 14, 15).flushed(3, 20, 21, 22)
                .flushed(2, 23, 24, 25).table(0, 4, 1, 6, 10, 15).table(1, 5, 1, 6, 20, 25);
    }

    private static void spanBeside() {
        twoOnLevelOne(SPAN, "from next to the one to next to the other").flushed(3, 16).flushed(4, 17).flushed(5, 18)
                .flushed(3, 19).table(0, 4, 1, 6, 10, 15).table(1, 10, 1, 4, 16, 19).table(2, 5, 1, 6, 20, 25);
        twoOnLevelOne(SPAN, "up to next to the first").flushed(3, 0).flushed(4, 9).flushed(5, 8).flushed(3, 7)
                .table(0, 10, 1, 4, 0, 9).table(1, 4, 1, 6, 10, 15).table(2, 5, 1, 6, 20, 25);
        twoOnLevelOne(SPAN, "from next to the last on").flushed(3, 26).flushed(4, 63).flushed(5, 62).flushed(3, 27)
                .table(0, 4, 1, 6, 10, 15).table(1, 5, 1, 6, 20, 25).table(2, 10, 1, 4, 26, 63);
    }

    private static void spanTouches() {
        twoOnLevelOne(SPAN, "from the greatest key of the one").flushed(3, 15).flushed(4, 16).flushed(5, 17)
                .flushed(3, 19).table(0, 10, 1, 6, 10, 15).table(1, 11, 1, 3, 16, 19).table(2, 5, 1, 6, 20, 25)
                .due("count 10", 1);
        twoOnLevelOne(SPAN, "up to the least key of the other").flushed(3, 16).flushed(4, 17).flushed(5, 18)
                .flushed(3, 20).table(0, 4, 1, 6, 10, 15).table(1, 10, 1, 6, 16, 22).table(2, 11, 1, 3, 23, 25)
                .due("count 10", 1);
    }

    private static void spanAround() {
        twoOnLevelOne(SPAN, "around both, from keys of different tables").flushed(3, 5).flushed(4, 5).flushed(5, 40)
                .flushed(3, 40).table(0, 10, 1, 6, 5, 14).table(1, 11, 1, 6, 15, 24).table(2, 12, 1, 2, 25, 40)
                .due("count 10", 2);
        twoOnLevelOne(SPAN, "within one").flushed(3, 12).flushed(4, 12).flushed(5, 12).flushed(2, 12)
                .table(0, 10, 1, 6, 10, 15).table(1, 5, 1, 6, 20, 25).due("count 10", 4);
        Run.terms(SPAN, "between two keys of a table").flushed(1, 10).flushed(2, 11).flushed(3, 30).flushed(1, 31)
                .flushed(2, 20).flushed(3, 20).flushed(4, 20).flushed(1, 20).table(0, 9, 1, 5, 10, 31)
                .due("count 10", 3);
    }

    private static void spoiledAmongThem() {
        Run.terms(SPOILED, "a block of a table on level 0").stuck(4).calls("""
                count 9 -> 4
                count 10 -> 0
                """).table(3, 0, 0, 8, 0, 7).due("table 3 5", 1);
        Run.terms(SPOILED, "the block of the newest table on level 0").flushed(1, 1).flushed(2, 2).flushed(3, 3).calls("""
                spoil 0 0 -> 1
                count 5 -> 0
                """).flushed(4, 4).levels(4, 0, 0, 0).due("count 5", 1);
        twoOnLevelOne(SPOILED, "the last block of a table that they meet").calls("spoil 0 1 -> 2").flushed(3, 15)
                .flushed(4, 16).flushed(5, 17).due("count 5", 0).flushed(6, 18).levels(4, 2, 0, 0).due("count 5", 1)
                .due("count 9", 10).due("count 10", 0).table(4, 4, 1, 6, 10, 15).due("table 4 5", 1);
    }

    private static void spoiledBesideThem() {
        twoOnLevelOne(SPOILED, "a block of a table that they do not meet").calls("""
                spoil 0 1 -> 2
                spoil 1 0 -> 4
                """).flushed(3, 16).flushed(4, 17).flushed(5, 18).flushed(3, 19).levels(0, 3, 0, 0).due("count 5", 0)
                .due("table 0 5", 1).due("table 1 5", 0).due("table 2 5", 1);
        Run.terms(SPOILED, "a block on level 2, and none goes there").puts(0, 31).due("spoil 3 0", 4).flushed(7, 20)
                .flushed(8, 20).flushed(9, 20).flushed(6, 20).levels(0, 3, 3, 0).due("count 5", 0)
                .due("table 3 5", 1);
    }

    private static void stuckLeavesPointers() {
        Run.terms(SPOILED, "pointer 1").puts(0, 31).due("spoil 0 1", 2).flushed(7, 32, 33).flushed(8, 34)
                .flushed(9, 35).flushed(7, 36, 37).levels(0, 4, 3, 0).due("count 5", 1).due("count 15", 17)
                .due("count 16", -1);
        // Three tables reach level 2 before its first one is due to go on, which is spoiled.
        Run.terms(SPOILED, "pointer 2").puts(0, 31).due("spoil 3 1", 2).flushed(7, 32, 33, 34).flushed(8, 35, 36, 37)
                .flushed(9, 38, 39, 40).flushed(9, 41, 42, 43, 44).levels(0, 3, 6, 0).due("count 5", 1)
                .due("count 15", 31).due("count 16", -1).due("giveUp", 2).levels(0, 3, 5, 1).due("count 16", 3);
    }

    private static void stuckOnTheWayToLevelTwo() {
        // Each round adds a table on level 1 below the pointer, till none is above it and 0 - 5 is due again.
        Run.terms(SPOILED, "a block of a table that one from level 1 meets").flushed(1, 0, 1, 2, 3, 4)
                .flushed(2, 5, 6, 7, 8, 9).flushed(3, 10, 11, 12, 13).flushed(4, 14, 15, 16, 17, 18).flushed(5, 0, 1)
                .flushed(6, 2).flushed(7, 3).flushed(5, 4, 5).flushed(6, 6, 7).flushed(7, 8).flushed(8, 9)
                .flushed(6, 10, 11).flushed(7, 12, 13).flushed(8, 14).flushed(9, 15).flushed(7, 16, 17)
                .levels(0, 3, 4, 0).due("count 15", 18).due("table 3 3", 0).due("spoil 3 1", 2).flushed(8, 18)
                .flushed(9, 18).flushed(10, 18).due("count 5", 0).flushed(8, 18).levels(0, 4, 4, 0)
                .due("count 5", 1).due("count 15", 18).due("count 10", 3).due("giveUp", 2).levels(0, 3, 4, 0)
                .due("count 5", 0).due("count 15", 5).due("count 10", 7);
    }

    private static void stuckEndsTidying() {
        // One table goes to level 2, which has six then; the next one is spoiled, and level 2 is not come to.
        fiveOnLevelTwo(Run.terms(SPOILED, "the levels below it are left")).due("spoil 1 0", 4).flushed(9, 44, 45, 46)
                .flushed(10, 47, 48, 49).flushed(11, 50, 51, 52).flushed(10, 53, 54, 55).levels(0, 4, 6, 0)
                .due("count 5", 1).due("count 15", 31).due("count 16", -1).due("giveUp", 4).levels(0, 3, 5, 2)
                .due("count 15", 37).due("count 16", 11);
    }

    private static void tableEnds() {
        String words = "a TABLE ends when it has 6 or more and the next ENTRY has another KEY";
        Run.terms(words, "five").flushed(1, 1, 2).flushed(2, 3).flushed(3, 4).flushed(1, 5).table(0, 4, 1, 5, 1, 5);
        Run.terms(words, "six").flushed(1, 1, 2).flushed(2, 3, 4).flushed(3, 5).flushed(1, 6).table(0, 4, 1, 6, 1, 6);
        Run.terms(words, "seven").flushed(1, 1, 2).flushed(2, 3, 4).flushed(3, 5, 6).flushed(2, 7)
                .table(0, 4, 1, 6, 1, 6).table(1, 5, 1, 1, 7, 7);
        Run.terms(words, "twelve").flushed(1, 1, 2, 3).flushed(2, 4, 5, 6).flushed(3, 7, 8, 9).flushed(2, 10, 11, 12)
                .table(0, 4, 1, 6, 1, 6).table(1, 5, 1, 6, 7, 12);
    }

    private static void tableEndsAtAKey() {
        String words = "a TABLE ends when it has 6 or more and the next ENTRY has another KEY";
        Run.terms(words, "the sixth and the seventh have one key").calls("snapshot -> 0").flushed(1, 1, 2, 3)
                .flushed(2, 4, 5, 6).flushed(3, 6).flushed(2, 7).table(0, 4, 1, 7, 1, 6).table(1, 5, 1, 1, 7, 7);
        Run.terms(words, "the fifth and the sixth have one key").calls("snapshot -> 0").flushed(1, 1, 2, 3)
                .flushed(2, 4, 5).flushed(3, 5).flushed(2, 6).table(0, 4, 1, 6, 1, 5).table(1, 5, 1, 1, 6, 6);
        Run.terms(words, "all have one key").calls("snapshot -> 0").again(32, "put 9 1").table(0, 4, 1, 32, 9, 9);
        Run.terms(words, "those dropped do not count").flushed(1, 1, 2, 3, 4, 5, 6).flushed(2, 1, 2, 3, 4, 5, 6)
                .flushed(3, 7).flushed(2, 7).table(0, 4, 1, 6, 1, 6).table(1, 5, 1, 1, 7, 7).due("count 10", 7);
        // The one behind the sixth is gone and dropped: the next is that of key 8.
        Run.terms(words, "the next is one that is not dropped").flushed(1, 1, 2, 3).flushed(2, 4, 5, 6)
                .calls("remove 7 -> 7").from(7).due("flush", 3).flushed(2, 8).table(0, 4, 1, 6, 1, 6)
                .table(1, 5, 1, 1, 8, 8).due("count 10", 1);
    }

    private static void oldOnes() {
        Run.terms("the old ones are no more", "none of level 0, none of those met").flushed(1, 1).flushed(2, 2)
                .flushed(3, 3).flushed(1, 4).flushed(2, 1).flushed(3, 2).flushed(4, 3).flushed(1, 4)
                .table(0, 9, 1, 4, 1, 4).levels(0, 1, 0, 0).calls("""
                count 9 -> 10
                table 1 0 -> IndexOutOfBoundsException
                spoil 1 0 -> IndexOutOfBoundsException
                """);
    }

    private static void olderOnes() {
        Run.terms(OLDER, "the greater number is the oldest").flushed(1, 9).puts(9, 9).due("snapshot", 0)
                .due("flush", 2).flushed(3, 8).flushed(1, 8).due("count 10", 1).entries(0, 4, 3, 2)
                .due("get 9 0", 90);
        Run.terms(OLDER, "the greater number is next above the oldest").puts(9, 9).due("snapshot", 0)
                .due("flush", 1).flushed(2, 9).flushed(3, 8).flushed(1, 8).due("count 10", 0).entries(0, 4, 3, 2, 1);
        Run.terms(OLDER, "only the last of a key is left without snapshots").again(32, "put 9 1").due("count 10", 31)
                .entries(0, 32);
        Run.terms(OLDER, "those of one record").calls("""
                open -> 0
                put 9 1 -> 1
                remove 9 -> 2
                put 9 3 -> 3
                close true -> 3
                flush -> 1
                table 0 2 -> 3
                """).from(3).flushed(2, 8).flushed(3, 7).flushed(1, 6).due("count 10", 2).entries(0, 6, 5, 4, 3);
    }

    private static void olderOnesElsewhere() {
        // The oldest entry of key 0 is not among them: it went to level 2 before.
        Run.terms(OLDER, "one that is not among them stays").puts(0, 31).flushed(7, 0).flushed(8, 0).flushed(9, 0)
                .flushed(7, 0).due("count 10", 3).levels(0, 3, 4, 0).entries(0, 36).entries(3, 1, 2, 3, 4, 5, 6)
                .due("get 0 -1", 0);
    }

    private static void goneUpToOldest() {
        Run.terms(GONE, "its number is the oldest").puts(9, 9).calls("""
                remove 9 -> 2
                snapshot -> 0
                flush -> 1
                """).from(2).flushed(2, 8).flushed(3, 8).flushed(1, 8).due("count 10", 2).entries(0, 5, 4, 3);
        Run.terms(GONE, "its number is next above the oldest").puts(9, 9).calls("""
                snapshot -> 0
                remove 9 -> 2
                flush -> 1
                """).from(2).flushed(2, 8).flushed(3, 8).flushed(1, 8).due("count 10", 0)
                .entries(0, 5, 4, 3, 2, 1).due("get 9 0", 90).due("get 9 -1", "NoSuchElementException");
        Run.terms(GONE, "its number is the latest").again(31, "put 9 1").calls("remove 9 -> 32").levels(0, 0, 0, 0)
                .due("count 10", 32);
        Run.terms(GONE, "a value is never dropped so").flushed(1, 1).flushed(2, 2).flushed(3, 3).flushed(1, 4)
                .due("count 10", 0);
    }

    private static void goneAboveDeeperRanges() {
        // Level 2 has 0 - 5, 6 - 11 and 12 - 17; level 1, which all goes along, is from 18 to 31.
        Run.terms(GONE, "at the ends of ranges and next to them").puts(0, 31).flushedGone(7, 0)
                .flushedGone(8, 17).flushedGone(9, 18).flushedGone(6, 40).due("count 10", 3).levels(0, 3, 3, 0)
                .table(0, 17, 1, 6, 0, 22).entries(0, 33, 34, 20, 21, 22, 23);
        // Even keys alone: level 2 has 0 - 10, 12 - 22 and 24 - 34, level 1 has 36 - 46 and more.
        Run even = Run.terms(GONE, "in a range without the key, and between two ranges");
        for (int key = 0; key <= 62; key += 2) {
            even.puts(key, key);
        }
        even.levels(0, 3, 3, 0).flushedGone(7, 5).flushedGone(8, 11).flushedGone(9, 35).flushedGone(7, 37)
                .due("count 10", 3).entries(0, 33, 19, 20, 21, 22, 23);
        Run.terms(GONE, "a range two levels deeper").puts(0, 63).levels(0, 3, 5, 4).flushedGone(13, 23)
                .flushedGone(14, 23).flushedGone(15, 23).flushedGone(13, 23).due("count 10", 3).calls("""
                get 23 -1 -> NoSuchElementException
                next 22 -1 -> 24
                """);
    }

    private static void goneOverTheLastLevel() {
        // What is gone is kept above level 3 as long as its ranges are there, and dropped on the way to it.
        // The last counts are PlainStore's answers, not counted by hand.
        Run run = Run.terms(GONE, "nothing is deeper than level 3").puts(0, 63);
        for (int i = 0; i < 64; i++) {
            run.again(1, "remove " + i);
        }
        for (int i = 0; i < 64; i++) {
            run.again(1, "remove " + i);
        }
        run.due("next -1 -1", "NoSuchElementException").levels(0, 3, 5, 5).due("count 10", 122);
    }

    private static void oldest() {
        String words = "OLDEST is the least NUMBER that a SNAPSHOT has, or the latest NUMBER if there are none";
        Run.terms(words, "number 0").calls("snapshot -> 0").again(32, "put 9 1").due("count 10", 0)
                .table(0, 4, 1, 32, 9, 9);
        Run.terms(words, "none").again(32, "put 9 1").due("count 10", 31);
        // Snapshot 0 is the newer one: the least number counts, not the least snapshot.
        Run.terms(words, "the least number is that of a later snapshot").calls("snapshot -> 0").flushed(1, 9)
                .calls("snapshot -> 1").flushed(2, 9).flushed(3, 9).calls("""
                release 0 -> 0
                snapshot -> 0
                """).flushed(1, 9).due("count 10", 0).entries(0, 4, 3, 2, 1).calls("""
                release 1 -> 1
                """).flushed(2, 9).flushed(3, 9).flushed(4, 9).flushed(1, 9).due("count 10", 2)
                .entries(0, 8, 7, 6, 5, 4, 3);
        Run.terms(words, "the last of four").calls("""
                snapshot -> 0
                snapshot -> 1
                snapshot -> 2
                """).flushed(1, 9).calls("""
                snapshot -> 3
                release 0 -> 0
                release 1 -> 0
                release 2 -> 0
                """).flushed(2, 9).flushed(3, 9).flushed(1, 9).entries(0, 4, 3, 2, 1);
    }

    private static void oldestAsSnapshotsGo() {
        String words = "OLDEST is the least NUMBER that a SNAPSHOT has, or the latest NUMBER if there are none";
        Run.terms(words, "all are released").calls("snapshot -> 0").flushed(1, 9).flushed(2, 9).flushed(3, 9)
                .due("release 0", 0).flushed(1, 9).entries(0, 4);
        Run.terms(words, "a crash frees all").calls("""
                snapshot -> 0
                snapshot -> 1
                """).flushed(1, 9).flushed(2, 9).flushed(3, 9).due("crash 0", 0).flushed(1, 9).entries(0, 4);
        Run.terms(words, "when given up").calls("snapshot -> 0").stuck(4).due("giveUp", 4).due("count 10", 0)
                .levels(0, 3, 1, 0);
    }
}
