/** One run of calls on a new LevelStore, each with the answer that is due. */
final class Run {
    private static final int MOST_CALLS = 512;
    private static int wrong;

    private final String name;
    private final LevelStore store = new LevelStore();
    private int made;
    private int latest;

    Run(String name) {
        this.name = name;
    }

    static int wrong() {
        return wrong;
    }

    /** Lines such as "put 5 50 -> 1" or "put 64 0 -> IllegalArgumentException". */
    Run calls(String lines) {
        for (String line : lines.split("\n")) {
            if (!line.isBlank()) {
                String[] sides = line.split("->");
                due(sides[0].trim(), sides[1].trim());
            }
        }
        return this;
    }

    Run due(String call, Object answer) {
        made++;
        String got = made > MOST_CALLS ? "a call too many" : Caller.answer(store, call);
        if (!got.equals(String.valueOf(answer))) {
            wrong++;
            System.out.println(name + ", call " + made + ": " + call + " answered " + got + ", due is " + answer);
        }
        return this;
    }

    /** Puts keys from .. to, each with ten times itself as its value; the numbers must go on by one. */
    Run puts(int from, int to) {
        for (int key = from; key <= to; key++) {
            number("put " + key + " " + 10 * key);
        }
        return this;
    }

    /** Makes the same writing call so many times. */
    Run again(int times, String call) {
        for (int i = 0; i < times; i++) {
            number(call);
        }
        return this;
    }

    private void number(String call) {
        latest++;
        due(call, latest);
    }

    /** Tells from which number on puts and again count. */
    Run from(int number) {
        latest = number;
        return this;
    }

    /** All facts of a table but its spoiled blocks: number, level, size, least and greatest key. */
    Run table(int i, int number, int level, int size, int least, int greatest) {
        return due("table " + i + " 0", number).due("table " + i + " 1", level).due("table " + i + " 2", size)
                .due("table " + i + " 3", least).due("table " + i + " 4", greatest);
    }

    /** How many tables there are on each level. */
    Run levels(int zero, int one, int two, int three) {
        return due("count 11", zero).due("count 12", one).due("count 13", two).due("count 14", three)
                .due("count 4", zero + one + two + three);
    }
}
