import java.io.IOException;
import java.nio.file.Files;
import java.nio.file.Path;
import java.util.regex.Matcher;
import java.util.regex.Pattern;

/** The program's file keeps to those rules of LANGUAGE.md that can be seen word by word. */
public final class LanguageTest {
    private static final String[] RULED_OUT = {
        "\\b(throw|throws|try|catch|finally|synchronized|assert)\\b",
        "\\b(import|package|native|volatile|transient|strictfp|protected)\\b",
        "\\b(System\\.(?!arraycopy)|Thread|Random|Runtime|Object)\\b",
        "->", "::", "\\bstatic\\s*\\{", "\\byield\\b", "\\bvar\\b",
        "\\b(equals|hashCode|toString|Exact)\\b",
        "\\bstatic\\s+(?!final|(?:abstract )?class|record|enum|interface|[\\w\\[\\]<>]+\\s+\\w+\\()",
        "[^\\x00-\\x7f]"};

    public static void main(String[] args) throws IOException {
        String code = Files.readString(Path.of("src/main/java/FlatLottery.java"));
        int wrong = 0;
        for (String ruledOut : RULED_OUT) {
            Matcher matcher = Pattern.compile(ruledOut).matcher(code.replaceAll("//.*", ""));
            while (matcher.find()) {
                wrong++;
                System.out.println("ruled out: " + matcher.group());
            }
        }
        wrong += methodsTooLong(code);
        if (wrong != 0) {
            System.exit(1);
        }
    }

    /** A method's body goes from its head's "{" to the "}" that stands as far to the right. */
    private static int methodsTooLong(String code) {
        int wrong = 0;
        Pattern method = Pattern.compile("(?m)^( +)[\\w .\\[\\]]+\\([^)]*\\) \\{\n((?s:.*?))^\\1\\}");
        Matcher matcher = method.matcher(code);
        int methods = 0;
        while (matcher.find()) {
            methods++;
            if (matcher.group(2).split("\n").length > 60) {
                wrong++;
                System.out.println("too long: " + matcher.group());
            }
        }
        if (methods < 25) {
            wrong++;
            System.out.println("only " + methods + " methods found");
        }
        return wrong;
    }
}
