import java.nio.file.Files;
import java.nio.file.Path;
import java.util.regex.Matcher;
import java.util.regex.Pattern;

/** Those rules of LANGUAGE.md that can be seen from the source's letters. */
public final class LanguageTest {
    private static final String[] NEVER = {
        "import", "package", "throw", "throws", "try", "catch", "finally", "synchronized", "assert", "volatile", "native",
        "transient", "var", "double", "float", "Object", "System\\.out", "Thread", "Random", "currentTimeMillis", "nanoTime",
        "hashCode", "toString", "getClass", "Exact", "protected",
    };

    public static void main(String[] args) throws Exception {
        String source = Files.readString(Path.of(System.getProperty("toffee.source", "src/main/java/ToffeeWords.java")));
        Due.holds("letters 1 to 127 alone", source.chars().allMatch(c -> c > 0 && c < 128));
        String code = withoutComments(source);
        for (String word : NEVER) {
            Due.holds("never: " + word, !Pattern.compile("\\b" + word + "\\b").matcher(code).find());
        }
        Due.holds("no name that ends in Exact", !code.contains("Exact("));
        Due.holds("no lambda", !code.contains("->"));
        Due.holds("no method reference", !code.contains("::"));
        Due.holds("no text is joined by +", !Pattern.compile("\"\\s*\\+|\\+\\s*\"").matcher(code).find());
        Due.holds("no initialiser block", !Pattern.compile("static\\s*\\{").matcher(code).find());
        Due.holds("nothing is caught or waited for", !code.contains("@"));
        methods(code);
        library(code);
        Due.end();
    }

    private static String withoutComments(String source) {
        return source.replaceAll("(?s)/\\*.*?\\*/", "").replaceAll("//[^\\n]*", "");
    }

    private static void methods(String code) {
        Matcher m = Pattern.compile("\\n( +)(?:public|private)[\\w\\s\\[\\]]*\\(([^)]*)\\)\\s*\\{").matcher(code);
        int seen = 0;
        while (m.find()) {
            seen++;
            int parameters = m.group(2).isBlank() ? 0 : m.group(2).split(",").length;
            Due.holds("at most seven parameters: " + m.group().strip(), parameters <= 7);
            int end = code.indexOf("\n" + m.group(1) + "}", m.end());
            long lines = code.substring(m.end(), end).lines().count();
            Due.holds("at most sixty lines: " + m.group().strip() + " " + lines, lines <= 60);
        }
        Due.holds("methods are seen", seen > 80);
    }

    private static void library(String code) {
        Matcher m = Pattern.compile("\\b(Math|System|Arrays|Integer|Long|Character|String|Double)\\.(\\w+)").matcher(code);
        while (m.find()) {
            Due.holds("of the library: " + m.group(), Pattern.matches("Math\\.(max|min|abs|floorMod|floorDiv)|System\\.arraycopy", m.group()));
        }
    }
}
