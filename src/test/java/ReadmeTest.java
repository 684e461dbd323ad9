import java.io.IOException;
import java.nio.file.Files;
import java.nio.file.Path;
import java.util.ArrayList;
import java.util.Arrays;
import java.util.List;
import java.util.Map;
import java.util.regex.Matcher;
import java.util.regex.Pattern;
import java.util.stream.Stream;

/** README.md says what the class does: its calls answer so, and its tables are the document's. */
public final class ReadmeTest {
    private static final Map<String, Integer> CONSTANTS = Map.of(
        "UNKNOWN", FlatLottery.UNKNOWN, "BAD_VALUE", FlatLottery.BAD_VALUE,
        "FULL", FlatLottery.FULL, "NOT_POSSIBLE", FlatLottery.NOT_POSSIBLE,
        "NONE", FlatLottery.NONE);
    private static final String MAKING = "FlatLottery lottery = new FlatLottery();";
    private static final Pattern CALL = Pattern.compile("lottery\\.(.*\\)); +// (-?\\d+|[A-Z_]+)(:.*)?");
    private static final Pattern ROW = Pattern.compile("\\| `(\\w+)\\((.*?)\\)` \\| .+ \\|(.*)\\|");
    private static final Pattern CONSTANT = Pattern.compile("\\| `([A-Z_]+)` \\| (-\\d+) \\| (.+) \\|");
    private static final Pattern NAME = Pattern.compile("[A-Z][A-Z_]+");

    public static void main(String[] args) throws IOException {
        String page = Files.readString(Path.of("README.md"));
        examples(page);
        calls(page);
        constants(page);
        testsNamed(page);
        Run.end();
    }

    private static void examples(String page) {
        Matcher block = Pattern.compile("(?s)```java\n(.*?)```").matcher(page);
        int examples = 0;
        while (block.find()) {
            examples++;
            example("example " + examples + " of README.md", block.group(1).split("\n"));
        }
        Run.check("README.md has three examples", examples == 3);
    }

    private static void example(String title, String[] lines) {
        Run.check(title + " makes an object first", lines[0].equals(MAKING));
        Run run = new Run(title);
        for (String line : Arrays.asList(lines).subList(1, lines.length)) {
            Matcher call = CALL.matcher(line);
            boolean isCall = call.matches();
            Run.check(title + " is calls with their answers: " + line, isCall);
            if (isCall) {
                run.due(withNumbers(call.group(1)), answer(call.group(2)));
            }
        }
    }

    /** A character is written by its number in a run. */
    private static String withNumbers(String call) {
        Matcher character = Pattern.compile("'(.)'").matcher(call);
        return character.replaceAll(found -> "" + (int) found.group(1).charAt(0));
    }

    private static int answer(String written) {
        return CONSTANTS.containsKey(written) ? CONSTANTS.get(written) : Integer.parseInt(written);
    }

    /** A row for each method, the acts first, with the document's arguments and errors. */
    private static void calls(String page) {
        List<String> named = new ArrayList<>();
        int actsEnd = page.indexOf("\nNo acts");
        Matcher row = ROW.matcher(page);
        while (row.find()) {
            String name = row.group(1);
            String promise = Document.promise(name);
            named.add(name);
            Run.check(name + ": the arguments in README.md", row.group(2).equals(arguments(promise)));
            Run.check(name + ": an act, or none, in README.md",
                row.start() < actsEnd == (promise.contains("is an act") || promise.contains("is one act")));
            List<String> errors = errorsIn(row.group(3));
            Run.check(name + ": the errors in README.md are " + errors,
                errors.equals(errorsOf(name, promise)));
        }
        List<String> all = new ArrayList<>(Arrays.asList(Call.NAMES));
        named.sort(null);
        all.sort(null);
        Run.check("README.md has a row for each method: " + named, named.equals(all));
    }

    private static String arguments(String promise) {
        Matcher face = Pattern.compile("`int \\w+\\((.*?)\\)`").matcher(promise);
        return face.find() ? face.group(1).replaceAll("\\b(int|boolean|char) ", "") : "no face";
    }

    /** What flat and household tell can be NONE, too, as the document says at their 'what'. */
    private static List<String> errorsOf(String name, String promise) {
        List<String> errors = errorsIn(promise.substring(promise.indexOf("\nReturns ")));
        if (name.equals("flat") || name.equals("household")) {
            errors.add("NONE");
        }
        return errors;
    }

    private static List<String> errorsIn(String words) {
        List<String> errors = new ArrayList<>();
        Matcher name = NAME.matcher(words);
        while (name.find()) {
            errors.add(name.group());
        }
        return errors;
    }

    private static void constants(String page) {
        int found = 0;
        Matcher row = CONSTANT.matcher(page);
        while (row.find()) {
            found++;
            String name = row.group(1);
            Run.check(name + ": the value in README.md",
                CONSTANTS.containsKey(name) && CONSTANTS.get(name) == Integer.parseInt(row.group(2)));
            Run.check(name + ": the meaning in README.md", Document.says("ERRORS",
                "`" + name + " = " + row.group(2) + "`: " + row.group(3)));
        }
        Run.check("README.md has a row for each constant", found == CONSTANTS.size());
    }

    private static void testsNamed(String page) throws IOException {
        try (Stream<Path> files = Files.list(Path.of("src/test/java"))) {
            files.map(file -> file.getFileName().toString()).filter(file -> file.endsWith("Test.java"))
                .forEach(file -> Run.check("README.md names " + file,
                    page.contains("`" + file.replace(".java", "") + "`")));
        }
    }
}
