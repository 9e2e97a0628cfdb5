/**
 * One run of calls on a new LevelStore, each with the answer that is due; PlainStore must answer the
 * same, so that what is due here and what ModelTest asks for are one reading of the document.
 */
final class Run {
    private static final int MOST_CALLS = 512;
    private static int wrong;

    private final String name;
    private final LevelStore store = new LevelStore();
    private final PlainStore plain = new PlainStore();
    private int made;
    private int latest;

    Run(String name) {
        this.name = name;
    }

    /** A run for an edge that the words name which the document says of that promise. */
    static Run promise(int number, String words, String edge) {
        return quoting("Promise " + number + ":", words, edge);
    }

    /** As promise, for words of the section "Terms". */
    static Run terms(String words, String edge) {
        return quoting("Terms", words, edge);
    }

    /** As promise, for words of the section "What it is". */
    static Run whatItIs(String words, String edge) {
        return quoting("What it is", words, edge);
    }

    private static Run quoting(String section, String words, String edge) {
        Run run = new Run(section + " \"" + words + "\", " + edge);
        if (!Document.says(section, words)) {
            run.tell("the document does not say so");
        }
        return run;
    }

    /** Ends the program: the last line of each test. */
    static void end(String test) {
        System.out.println(test + ": " + (wrong == 0 ? "all answers are as due" : wrong + " wrong"));
        System.exit(wrong == 0 ? 0 : 1);
    }

    void tell(String what) {
        wrong++;
        System.out.println(name + ": " + what);
    }

    /** Lines such as "put 5 50 -> 1" or "put 64 0 -> IllegalArgumentException". */
    Run calls(String lines) {
        for (String line : lines.split("\n")) {
            if (!line.isBlank()) {
                String[] sides = line.split("->");
                due(sides[0].trim(), sides[1].trim());
            }
        }
        return this;
    }

    Run due(String call, Object answer) {
        made++;
        String due = String.valueOf(answer);
        String got = made > MOST_CALLS ? "a call too many" : Caller.answer(store, call);
        if (!got.equals(due)) {
            tell("call " + made + ": " + call + " answered " + got + ", due is " + due);
        }
        String same = Caller.answer(plain, call);
        if (!same.equals(due)) {
            tell("call " + made + ": " + call + " is answered by PlainStore with " + same + ", due is " + due);
        }
        return this;
    }

    /** Makes the same call so many times, with the same answer each time. */
    Run due(int times, String call, Object answer) {
        for (int i = 0; i < times; i++) {
            due(call, answer);
        }
        return this;
    }

    /** Puts keys from .. to, each with ten times itself as its value; the numbers must go on by one. */
    Run puts(int from, int to) {
        for (int key = from; key <= to; key++) {
            number("put " + key + " " + 10 * key);
        }
        return this;
    }

    /** Puts these keys, each with ten times itself as its value, and flushes: so many tables are due. */
    Run flushed(int tables, int... keys) {
        for (int key : keys) {
            puts(key, key);
        }
        return due("flush", tables);
    }

    /** As flushed, but removes these keys. */
    Run flushedGone(int tables, int... keys) {
        for (int key : keys) {
            number("remove " + key);
        }
        return due("flush", tables);
    }

    /** Makes the same writing call so many times. */
    Run again(int times, String call) {
        for (int i = 0; i < times; i++) {
            number(call);
        }
        return this;
    }

    private void number(String call) {
        latest++;
        due(call, latest);
    }

    /** Tells from which number on puts, flushed and again count. */
    Run from(int number) {
        latest = number;
        return this;
    }

    /** Stuck at the first merge, with so many tables, 4 to 8, each with the keys 0 to 7, on level 0. */
    Run stuck(int tables) {
        puts(0, 7).due("spoil 0 1", 4);
        for (int i = 1; i < tables; i++) {
            puts(0, 7);
        }
        return levels(tables, 0, 0, 0).due("count 5", 1);
    }

    /** All facts of a table but its spoiled blocks: number, level, size, least and greatest key. */
    Run table(int i, int number, int level, int size, int least, int greatest) {
        return due("table " + i + " 0", number).due("table " + i + " 1", level).due("table " + i + " 2", size)
                .due("table " + i + " 3", least).due("table " + i + " 4", greatest);
    }

    /** The numbers of a table's entries, and that there is none behind them. */
    Run entries(int i, int... numbers) {
        due("table " + i + " 2", numbers.length);
        for (int j = 0; j < numbers.length; j++) {
            due("table " + i + " " + (6 + j), numbers[j]);
        }
        return numbers.length < 10 ? due("table " + i + " " + (6 + numbers.length), 0) : this;
    }

    /** How many tables there are on each level. */
    Run levels(int zero, int one, int two, int three) {
        return due("count 11", zero).due("count 12", one).due("count 13", two).due("count 14", three)
                .due("count 4", zero + one + two + three);
    }
}
