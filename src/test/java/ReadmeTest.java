import java.io.IOException;
import java.nio.file.Files;
import java.nio.file.Path;
import java.util.HashMap;
import java.util.List;
import java.util.Map;
import java.util.regex.Matcher;
import java.util.regex.Pattern;

/** The example of README.md: each of its calls is made, and answers what the comment behind it begins with. */
public final class ReadmeTest {
    private static final String MAKES = "CallShaper x = new CallShaper();";
    private static final Pattern CALL = Pattern.compile("(?:int (\\w+) = )?x\\.(\\w+)\\((.*)\\); +// (-?\\d+): .*");

    private final CallShaper shaper = new CallShaper();
    private final Map<String, Integer> named = new HashMap<>();

    public static void main(String[] args) throws IOException {
        Check check = new Check();
        new ReadmeTest().follow(Files.readAllLines(Path.of("README.md")), check);
        check.end();
    }

    private void follow(List<String> readme, Check check) {
        int from = readme.indexOf("```java") + 1;
        int to = from + readme.subList(from, readme.size()).indexOf("```");
        check.due("the example's first line", readme.get(from), MAKES);
        for (String line : readme.subList(from + 1, to)) {
            if (!line.isEmpty()) {
                followLine(line, check);
            }
        }
    }

    private void followLine(String line, Check check) {
        Matcher call = CALL.matcher(line);
        check.due("a call and its answer: " + line, call.matches(), true);
        if (call.matches()) {
            int got = answer(call.group(2), call.group(3).isEmpty() ? new String[0] : call.group(3).split(", "));
            check.due(line, got, Integer.valueOf(call.group(4)));
            if (call.group(1) != null) {
                named.put(call.group(1), got);
            }
        }
    }

    private int answer(String name, String[] given) {
        switch (name + " " + given.length) {
            case "type 1":
                return shaper.type(number(given[0]));
            case "operation 6":
                return shaper.operation(number(given[0]), number(given[1]), number(given[2]), number(given[3]),
                    number(given[4]), number(given[5]));
            case "strip 2":
                return shaper.strip(number(given[0]), number(given[1]));
            case "shape 0":
                return shaper.shape();
            case "reach 0":
                return shaper.reach();
            case "site 3":
                return shaper.site(number(given[0]), number(given[1]), number(given[2]));
            case "run 2":
                return shaper.run(given[0].equals("true"), number(given[1]));
            case "count 1":
                return shaper.count(number(given[0]));
            case "out 1":
                return shaper.out(number(given[0]));
            default:
                throw new IllegalArgumentException("README.md calls what is not there: " + name);
        }
    }

    private int number(String written) {
        return named.containsKey(written) ? named.get(written) : Integer.parseInt(written);
    }
}
