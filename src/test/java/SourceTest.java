import java.io.IOException;
import java.nio.file.Files;
import java.nio.file.Path;
import java.util.regex.Matcher;
import java.util.regex.Pattern;

/** The rules of LANGUAGE.md that can be seen from the words of the source alone. */
public final class SourceTest {
    private static final Path SOURCE = Path.of("src/main/java/WindWords.java");
    private static final String[] BANNED = {
        "throw", "try", "catch", "finally", "synchronized", "assert", "import", "package", "protected", "volatile",
        "native", "transient", "Object", "Thread", "Runtime", "Random", "Optional", "Stream", "record", "sealed",
        "toString", "hashCode", "float", "double", "var", "instanceof",
    };

    private static final Check CHECK = new Check("SourceTest");

    public static void main(String[] args) throws IOException {
        String source = Files.readString(SOURCE);
        for (int k = 0; k < source.length(); k++) {
            if (source.charAt(k) > 126 || source.charAt(k) < 32 && source.charAt(k) != '\n') {
                CHECK.same("sign at " + k, source.charAt(k), ' ');
            }
        }
        String bare = withoutComments(source);
        for (String word : BANNED) {
            CHECK.same("the word " + word, Pattern.compile("\\b" + word + "\\b").matcher(bare).find(), false);
        }
        for (String sign : new String[] {"->", "::", "@", "[][][]", "MAX_VALUE", "MIN_VALUE", "System.", "\" +", "+ \""}) {
            CHECK.same("the sign " + sign, bare.contains(sign), false);
        }
        classes(bare);
        methods(bare);
        CHECK.end();
    }

    private static String withoutComments(String source) {
        return source.replaceAll("(?s)/\\*.*?\\*/", "").replaceAll("//[^\n]*", "");
    }

    private static void classes(String bare) {
        Matcher found = Pattern.compile("\\bclass (\\w+)[^{]*\\{").matcher(bare);
        int many = 0;
        while (found.find()) {
            many++;
            String body = bare.substring(found.end(), closing(bare, found.end()));
            CHECK.same("fields of " + found.group(1), fields(body) <= 20, true);
        }
        CHECK.same("at most twelve classes", many <= 12 && many > 0, true);
        Matcher inside = Pattern.compile("\n {4}([a-z ]*)\\bclass ").matcher(bare);
        while (inside.find()) {
            CHECK.same("a class inside: " + inside.group(1), inside.group(1).equals("private static final "), true);
        }
    }

    private static int closing(String text, int from) {
        int open = 1;
        int at = from;
        while (open > 0 && at < text.length()) {
            open += text.charAt(at) == '{' ? 1 : text.charAt(at) == '}' ? -1 : 0;
            at++;
        }
        return at;
    }

    /** Lines that end with ";" at a class's own depth, but for its constants. */
    private static int fields(String body) {
        int open = 0;
        int many = 0;
        for (String line : body.split("\n")) {
            boolean isOwn = open == 0 && line.endsWith(";");
            if (isOwn && line.contains("static")) {
                CHECK.same("static and final: " + line.trim(), line.contains("static final"), true);
            } else if (isOwn) {
                many++;
            }
            for (char c : line.toCharArray()) {
                open += c == '{' ? 1 : c == '}' ? -1 : 0;
            }
        }
        return many;
    }

    private static void methods(String bare) {
        Matcher found = Pattern.compile("\n {4,8}((?:private |public |static )*)(?:[\\w\\[\\]]+ )?(\\w+)\\(([^)]*)\\) \\{").matcher(bare);
        int many = 0;
        while (found.find()) {
            many++;
            String body = bare.substring(found.end(), closing(bare, found.end()));
            CHECK.same("lines of " + found.group(2), body.split("\n").length <= 60, true);
            CHECK.same("parameters of " + found.group(2), found.group(3).split(",").length <= 7, true);
        }
        CHECK.same("methods are found", many > 100, true);
    }
}
