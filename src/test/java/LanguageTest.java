import java.io.IOException;
import java.nio.file.Files;
import java.nio.file.Path;
import java.util.List;
import java.util.regex.Matcher;
import java.util.regex.Pattern;

/** Those rules of LANGUAGE.md that can be seen in the text of the program. */
public final class LanguageTest {
    private static final List<String> FORBIDDEN = List.of("->", "::", "synchronized", "finally", "assert ", "static {",
            "try ", "catch", "Exact(", "double", "float", "HashMap", "Object", "String.format", "System.out", "package ",
            "protected", "instanceof", ".hashCode", ".toString", "record ", "new Random", "nanoTime", "while (true)");

    public static void main(String[] args) throws IOException {
        String source = Files.readString(Path.of(args[0]));
        String code = source.replaceAll("(?s)/\\*.*?\\*/", "").replaceAll("//[^\n]*", "");
        for (String word : FORBIDDEN) {
            Check.holds("no " + word, !code.contains(word));
        }
        Matcher imports = Pattern.compile("import ([^;]*);").matcher(code);
        while (imports.find()) {
            Check.holds(imports.group(), List.of("java.util.Arrays", "java.util.NoSuchElementException").contains(imports.group(1)));
        }
        for (char c : source.toCharArray()) {
            Check.holds("sign " + (int) c, c == '\n' || c >= 32 && c < 127);
        }
        Matcher thrown = Pattern.compile("throw ([^;]*);").matcher(code);
        int throwing = 0;
        while (thrown.find()) {
            throwing++;
            Check.holds(thrown.group(), thrown.group(1).startsWith("new NoSuchElementException("));
        }
        Check.due("throw statements", throwing, 1);
        methods(code);
        Check.close("LanguageTest");
    }

    private static void methods(String code) {
        Matcher heads = Pattern.compile("\n( +)(?:[\\w\\[\\]]+ )+\\w+\\(([^)]*)\\)[\\w ]* \\{\n").matcher(code);
        int many = 0;
        while (heads.find()) {
            many++;
            int end = code.indexOf("\n" + heads.group(1) + "}", heads.end());
            long lines = code.substring(heads.start(), end).lines().count();
            Check.holds(heads.group().trim() + " has " + lines + " lines", lines <= 60);
            Check.holds(heads.group().trim() + " has seven parameters at most", heads.group(2).split(",").length <= 7);
        }
        Check.holds("methods are seen: " + many, many > 80);
    }
}
