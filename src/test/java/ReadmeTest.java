import java.io.IOException;
import java.nio.file.Files;
import java.nio.file.Path;
import java.util.HashMap;
import java.util.Map;
import java.util.regex.Matcher;
import java.util.regex.Pattern;

/** The example of README.md: each of its calls must answer what the remark behind it begins with. */
public final class ReadmeTest {
    private static final int LEAST_CALLS = 16;
    private static final Pattern CALL =
            Pattern.compile("(?:int (\\w+) = )?store\\.(\\w+)\\((.*)\\); +// (?:throws )?([\\w.-]+)(?::.*)?");

    private ReadmeTest() {
    }

    public static void main(String[] args) throws IOException {
        Run run = new Run("the example of README.md");
        Map<String, String> names = new HashMap<>();
        int calls = 0;
        String readme = Files.readString(Path.of("README.md"));
        int start = readme.indexOf("```java");
        for (String line : readme.substring(start, readme.indexOf("```\n", start)).split("\n")) {
            Matcher call = CALL.matcher(line);
            if (call.matches()) {
                calls++;
                run.due(call.group(2) + " " + arguments(call.group(3), names), call.group(4));
                names.put(call.group(1), call.group(4));
            } else if (line.contains("store.")) {
                run.tell("is no call with its answer: " + line);
            }
        }
        if (calls < LEAST_CALLS) {
            run.tell("has but " + calls + " calls");
        }
        Run.end("ReadmeTest");
    }

    /** The arguments as numbers, where the example gives the name of an earlier answer too. */
    private static String arguments(String written, Map<String, String> names) {
        StringBuilder all = new StringBuilder();
        for (String argument : written.split(", *")) {
            all.append(names.getOrDefault(argument, argument)).append(' ');
        }
        return all.toString().trim();
    }
}
