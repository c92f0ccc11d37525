import java.nio.file.Files;
import java.nio.file.Path;
import java.util.ArrayList;
import java.util.List;
import java.util.regex.Matcher;
import java.util.regex.Pattern;

/** Those rules of LANGUAGE.md that can be seen from the source's letters. */
public final class LanguageTest {
    private static final String[] NEVER = {
        "import", "package", "throw", "throws", "try", "catch", "finally", "synchronized", "assert", "volatile", "native",
        "transient", "var", "double", "float", "Object", "System\\.out", "Thread", "Random", "currentTimeMillis", "nanoTime",
        "hashCode", "toString", "getClass", "Exact", "protected",
    };

    public static void main(String[] args) throws Exception {
        String source = Files.readString(Path.of(System.getProperty("toffee.source", "src/main/java/ToffeeWords.java")));
        Due.holds("letters 1 to 127 alone", source.chars().allMatch(c -> c > 0 && c < 128));
        String code = withoutComments(source);
        for (String word : NEVER) {
            Due.holds("never: " + word, !Pattern.compile("\\b" + word + "\\b").matcher(code).find());
        }
        Due.holds("no name that ends in Exact", !code.contains("Exact("));
        Due.holds("no lambda", !code.contains("->"));
        Due.holds("no method reference", !code.contains("::"));
        Due.holds("no text is joined by +", !Pattern.compile("\"\\s*\\+|\\+\\s*\"").matcher(code).find());
        Due.holds("no initialiser block", !Pattern.compile("static\\s*\\{").matcher(code).find());
        Due.holds("nothing is caught or waited for", !code.contains("@"));
        methods(code);
        library(code);
        recursion(methodsOf(code));
        constructors(methodsOf(code));
        depth(methodsOf(code));
        Due.end();
    }

    private static String withoutComments(String source) {
        return source.replaceAll("(?s)/\\*.*?\\*/", "").replaceAll("//[^\\n]*", "");
    }

    private static void methods(String code) {
        Matcher m = Pattern.compile("\\n( +)(?:public|private)[\\w\\s\\[\\]]*\\(([^)]*)\\)\\s*\\{").matcher(code);
        int seen = 0;
        while (m.find()) {
            seen++;
            int parameters = m.group(2).isBlank() ? 0 : m.group(2).split(",").length;
            Due.holds("at most seven parameters: " + m.group().strip(), parameters <= 7);
            int end = code.indexOf("\n" + m.group(1) + "}", m.end());
            long lines = code.substring(m.end(), end).lines().count();
            Due.holds("at most sixty lines: " + m.group().strip() + " " + lines, lines <= 60);
        }
        Due.holds("methods are seen", seen > 80);
    }

    private static void library(String code) {
        Matcher m = Pattern.compile("\\b(Math|System|Arrays|Integer|Long|Character|String|Double)\\.(\\w+)").matcher(code);
        while (m.find()) {
            Due.holds("of the library: " + m.group(), Pattern.matches("Math\\.(max|min|abs|floorMod|floorDiv)|System\\.arraycopy", m.group()));
        }
    }

    /** A method or constructor as it is written: its head up to the bracket, its name, its body. */
    private record Written(String head, String name, String body) {
        boolean calls(Written other) {
            return Pattern.compile("\\b" + other.name + "\\(").matcher(body).find();
        }

        boolean callsItself() {
            return Pattern.compile("(?<![.\\w])" + name + "\\(").matcher(body).find();
        }

        boolean makesItsClass() {
            return Character.isUpperCase(name.charAt(0));
        }
    }

    private static List<Written> methodsOf(String code) {
        List<Written> all = new ArrayList<>();
        Matcher m = Pattern.compile("\\n( +)((?:public|private)[\\w\\s\\[\\]]*?(\\w+))\\([^)]*\\)\\s*\\{").matcher(code);
        while (m.find()) {
            int end = code.indexOf("\n" + m.group(1) + "}", m.end());
            all.add(new Written(m.group(2), m.group(3), code.substring(m.end(), end)));
        }
        return all;
    }

    /** Rule 8: "a private static method that calls itself". */
    private static void recursion(List<Written> all) {
        int seen = 0;
        for (Written w : all) {
            if (w.callsItself()) {
                seen++;
                Due.holds("what calls itself is private static: " + w.head(), w.head().startsWith("private static "));
            }
        }
        Due.due("methods that call themselves", seen, 1);
    }

    /** Rule 12: a constructor "hands out nothing of the object that it makes". */
    private static void constructors(List<Written> all) {
        int seen = 0;
        for (Written w : all) {
            if (w.makesItsClass()) {
                seen++;
                Due.holds("nothing but numbers goes into what is made: " + w.head(),
                        !Pattern.compile("new \\w+\\((?!\\))").matcher(w.body()).find());
                Due.holds("the object itself goes nowhere: " + w.head(), !Pattern.compile("\\bthis\\b(?!\\.)").matcher(w.body()).find());
            }
        }
        Due.due("constructors that are written out", seen, 3);
    }

    /** Rule 11: "calls that are no recursion go at most eight deep", one of the library's counted as one. */
    private static void depth(List<Written> all) {
        for (Written w : all) {
            if (w.head().startsWith("public ")) {
                int deep = deepest(w, all, 0);
                Due.holds("at most eight deep: " + w.head() + " " + deep, deep <= 8);
            }
        }
    }

    private static int deepest(Written from, List<Written> all, int above) {
        int below = Pattern.compile("\\b(Math|System)\\.|\\.(charAt|length)\\(").matcher(from.body()).find() ? 1 : 0;
        for (Written w : all) {
            // Of like names all are followed but the method itself: more than there is, never less.
            if (w != from && from.calls(w) && above < 20) {
                below = Math.max(below, deepest(w, all, above + 1));
            }
        }
        return below + 1;
    }
}
