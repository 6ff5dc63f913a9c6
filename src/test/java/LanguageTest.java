import java.io.IOException;
import java.nio.file.Files;
import java.nio.file.Path;
import java.util.HashSet;
import java.util.Set;
import java.util.regex.Matcher;
import java.util.regex.Pattern;

/** What of ../shared/LANGUAGE.md can be seen in the source without understanding it. */
public final class LanguageTest {
    private static final Path SOURCE = Path.of("src/main/java/PromisedFish.java");
    private static final Due due = new Due("LanguageTest");

    public static void main(String[] args) throws IOException {
        String text = Files.readString(SOURCE);
        due.is("signs are 1 to 127", text.chars().allMatch(sign -> sign > 0 && sign < 128) ? 1 : 0, 1);
        String code = withoutComments(text);
        words(code);
        names(code);
        methods(code);
        due.is("at most twelve classes", times(code, "\\b(class|interface|enum|record)\\b") <= 12 ? 1 : 0, 1);
        due.end();
    }

    private static String withoutComments(String text) {
        return text.replaceAll("(?s)/\\*.*?\\*/", "").replaceAll("//[^\n]*", "").replaceAll("'.'", "0").replaceAll("\"[^\"\n]*\"", "NAME");
    }

    private static int times(String code, String pattern) {
        int n = 0;
        for (Matcher m = Pattern.compile(pattern).matcher(code); m.find(); ) {
            n++;
        }
        return n;
    }

    private static void words(String code) {
        for (String word : "throw throws try catch finally synchronized assert instanceof package protected".split(" ")) {
            due.is("the word " + word, times(code, "\\b" + word + "\\b"), 0);
        }
        due.is("a lambda or a method reference", times(code, "->|::"), 0);
        due.is("imports of others", times(code, "\\bimport (?!java\\.util\\.Arrays;)"), 0);
        due.is("static fields that are not final", times(code, "\\bstatic (?!final\\b)[\\w\\[\\]]+ \\w+\\s*[;=]"), 0);
        due.is("static blocks", times(code, "\\bstatic \\{"), 0);
        due.is("classes inside that are not static", times(code, "(?<!private static final )(?<!public final )\\bclass\\b"), 0);
        due.is("while and do", times(code, "\\b(while|do)\\b"), 0);
        due.is("Exact functions", times(code, "\\w+Exact\\b"), 0);
    }

    private static void names(String code) {
        Set<String> open = new HashSet<>();
        for (Matcher m = Pattern.compile("public int (\\w+)\\(").matcher(code); m.find(); ) {
            open.add(m.group(1));
        }
        due.is("public methods", open.size(), 37);
        for (Matcher m = Pattern.compile("private (?:static )?[\\w\\[\\]]+ (\\w+)\\(").matcher(code); m.find(); ) {
            due.is("a private method named " + m.group(1), open.contains(m.group(1)) ? 1 : 0, 0);
        }
        due.is("other public members", times(code, "\\bpublic\\b") - open.size(), 2);
    }

    private static void methods(String code) {
        Pattern head = Pattern.compile("^( +)(?:public|private) (?:static )?(?:[\\w\\[\\]]+ )?(\\w+)\\(([^)]*)\\) \\{$", Pattern.MULTILINE);
        for (Matcher m = head.matcher(code); m.find(); ) {
            String parameters = m.group(3);
            due.is("parameters of " + m.group(2) + " are at most seven", parameters.split(",").length <= 7 ? 1 : 0, 1);
            int end = code.indexOf("\n" + m.group(1) + "}", m.end());
            long lines = code.substring(m.start(), end).lines().count();
            due.is("lines of " + m.group(2) + " (" + lines + ") are at most sixty", lines <= 60 ? 1 : 0, 1);
        }
    }
}
