import java.util.ArrayList;
import java.util.List;
import java.util.Random;
import java.util.TreeMap;

/** Long runs of calls on LevelStore and PlainStore side by side: every answer must be the same. */
public final class ModelTest {
    private static final int RUNS_OF_A_KIND = 100;
    private static final int CALLS = 512;

    /** How often each call comes, and how many keys there are. */
    private record Kind(String name, int keys, int writes, int batches, int logs, int looks, int snapshots,
            int spoils, int tells, boolean early) {
    }

    private static final List<Kind> KINDS = List.of(
            new Kind("all calls, all keys", 64, 30, 10, 6, 20, 6, 2, 20, false),
            new Kind("all calls, few keys", 9, 30, 10, 6, 20, 6, 2, 20, false),
            new Kind("mostly writes", 64, 80, 0, 1, 10, 1, 0, 10, false),
            new Kind("mostly batches", 64, 10, 90, 1, 10, 1, 0, 10, false),
            new Kind("batches kept for a snapshot", 64, 10, 90, 0, 6, 0, 0, 10, true),
            new Kind("one key kept for a snapshot", 1, 60, 30, 0, 10, 0, 1, 20, true),
            new Kind("three keys, snapshots come and go", 3, 60, 10, 0, 20, 12, 0, 10, false),
            new Kind("much spoiled", 64, 80, 0, 3, 10, 1, 5, 10, false),
            new Kind("spoiled while full", 40, 90, 40, 0, 6, 0, 1, 6, true));

    private final TreeMap<String, Integer> seen = new TreeMap<>();
    private int wrong;

    public static void main(String[] args) {
        ModelTest test = new ModelTest();
        for (Kind kind : KINDS) {
            for (int seed = 0; seed < RUNS_OF_A_KIND; seed++) {
                test.run(kind, seed);
            }
        }
        test.requireSeen();
        System.out.println("ModelTest: " + (test.wrong == 0 ? "all answers are the same" : test.wrong + " wrong"));
        System.exit(test.wrong == 0 ? 0 : 1);
    }

    private void run(Kind kind, int seed) {
        Random random = new Random(seed);
        LevelStore store = new LevelStore();
        PlainStore model = new PlainStore();
        List<String> calls = new ArrayList<>();
        if (kind.early()) {
            calls.add("snapshot");
        }
        while (calls.size() < CALLS) {
            addCalls(kind, random, calls);
        }
        for (int i = 0; i < CALLS; i++) {
            String call = calls.get(i);
            String due = Caller.answer(model, call);
            String got = Caller.answer(store, call);
            note(call, due, model);
            if (!got.equals(due)) {
                wrong++;
                System.out.println("ModelTest: " + kind.name() + ", seed " + seed + ", call " + (i + 1) + ": " + call
                        + " answered " + got + ", due is " + due);
                return;
            }
        }
    }

    private void addCalls(Kind kind, Random random, List<String> calls) {
        int all = kind.writes() + kind.batches() + kind.logs() + kind.looks() + kind.snapshots() + kind.spoils()
                + kind.tells();
        int at = random.nextInt(all);
        if ((at -= kind.writes()) < 0) {
            calls.add(write(kind, random));
        } else if ((at -= kind.batches()) < 0) {
            addBatch(kind, random, calls);
        } else if ((at -= kind.logs()) < 0) {
            calls.add(switch (random.nextInt(4)) {
                case 0 -> "sync";
                case 1 -> "crash " + (random.nextInt(12) - 1);
                case 2 -> "crash " + (95 + random.nextInt(8));
                default -> "flush";
            });
        } else if ((at -= kind.looks()) < 0) {
            int snapshot = random.nextInt(3) > 0 ? -1 : random.nextInt(6) - 1;
            calls.add((random.nextInt(3) == 0 ? "next " : "get ") + key(kind, random) + " " + snapshot);
        } else if ((at -= kind.snapshots()) < 0) {
            calls.add(random.nextBoolean() ? "snapshot" : "release " + (random.nextInt(6) - 1));
        } else if (at - kind.spoils() < 0) {
            calls.add(switch (random.nextInt(8)) {
                case 0 -> "giveUp";
                case 1 -> "spoil " + (random.nextInt(64) - 2) + " " + (random.nextInt(64) - 2);
                default -> "spoil " + random.nextInt(9) + " " + random.nextInt(2);
            });
        } else {
            calls.add(tell(random));
        }
    }

    private static String tell(Random random) {
        return switch (random.nextInt(8)) {
            case 0 -> "effort";
            case 1, 2, 3 -> "count " + (random.nextInt(19) - 1);
            case 4 -> "table " + (random.nextInt(64) - 2) + " " + (random.nextInt(18) - 1);
            default -> "table " + random.nextInt(16) + " " + random.nextInt(16);
        };
    }

    private static void addBatch(Kind kind, Random random, List<String> calls) {
        // Now and then a batch is closed that was never open, or is left open for the calls behind it.
        if (random.nextInt(16) > 0) {
            calls.add("open");
        }
        int size = random.nextInt(8) == 0 ? random.nextInt(6) : 4;
        for (int i = 0; i < size; i++) {
            calls.add(write(kind, random));
        }
        if (random.nextInt(16) > 0) {
            calls.add(random.nextInt(16) == 0 ? "close false" : "close true");
        }
    }

    private static String write(Kind kind, Random random) {
        return random.nextInt(4) == 0
                ? "remove " + key(kind, random)
                : "put " + key(kind, random) + " " + random.nextInt();
    }

    private static int key(Kind kind, Random random) {
        return random.nextInt(50) == 0 ? random.nextInt(70) - 3 : random.nextInt(kind.keys());
    }

    private void note(String call, String due, PlainStore model) {
        String name = call.split(" ")[0];
        seen.merge(name + (due.endsWith("Exception") ? " throws " + due : " answers"), 1, Integer::sum);
        for (int level = 0; level <= 3; level++) {
            seen.merge("most tables on level " + level, model.count(11 + level), Math::max);
        }
        seen.merge("stuck", model.count(5), Math::max);
        seen.merge("entries dropped", model.count(10), Math::max);
    }

    /** Runs that miss a part of the document would prove nothing about it. */
    private void requireSeen() {
        for (String what : List.of("put throws IllegalStateException", "put throws UnsupportedOperationException",
                "close throws IllegalStateException", "get throws IllegalStateException",
                "get throws UnsupportedOperationException", "get throws NoSuchElementException",
                "next throws NoSuchElementException", "flush throws UnsupportedOperationException",
                "snapshot throws IllegalStateException", "release throws UnsupportedOperationException",
                "spoil throws IndexOutOfBoundsException", "spoil answers", "giveUp answers", "effort answers",
                "effort throws ArithmeticException", "open throws IllegalStateException",
                "close throws UnsupportedOperationException", "stuck", "entries dropped")) {
            require(seen.getOrDefault(what, 0) > 0, what);
        }
        require(seen.getOrDefault("most tables on level 0", 0) == 8, "8 tables on level 0");
        require(seen.getOrDefault("most tables on level 1", 0) >= 3, "3 tables on level 1");
        require(seen.getOrDefault("most tables on level 2", 0) >= 5, "5 tables on level 2");
        require(seen.getOrDefault("most tables on level 3", 0) >= 3, "3 tables on level 3");
    }

    private void require(boolean holds, String what) {
        if (!holds) {
            wrong++;
            System.out.println("ModelTest: never seen in any run: " + what);
        }
    }
}
