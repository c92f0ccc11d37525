import java.lang.reflect.Method;
import java.lang.reflect.Modifier;
import java.nio.file.Files;
import java.nio.file.Path;

/** What README.md shows is answered so, and it names every call. */
public final class ReadmeTest {
    private static String page;

    public static void main(String[] args) throws Exception {
        page = Files.readString(pagePath());
        namesEveryCall();
        showsWhatIsAnswered();
        tellsAValley();
        Due.end();
    }

    /** It lies at the root of the project, of which the source is told. */
    private static Path pagePath() {
        Path source = Path.of(System.getProperty("toffee.source", "src/main/java/ToffeeWords.java")).toAbsolutePath();
        return source.resolve("../../../../README.md").normalize();
    }

    private static void namesEveryCall() {
        for (Method m : ToffeeWords.class.getDeclaredMethods()) {
            if (Modifier.isPublic(m.getModifiers())) {
                Due.holds("README names " + m.getName(), page.contains("`" + m.getName() + "("));
            }
        }
        Due.holds("README says how to run the tests", page.contains("`.ci/run`"));
    }

    private static void showsWhatIsAnswered() {
        ToffeeWords x = new ToffeeWords();
        shown("x.damp(0, 1);", x.damp(0, 1));
        int p = x.apple(0, 5, 2);
        shown("int p = x.apple(0, 5, 2);", p);
        int b = x.biter(0, 7);
        shown("int b = x.biter(0, 7);", b);
        shown("x.takes(b, p);", x.takes(b, p));
        shown("x.bites(b, p);", x.bites(b, p));
        shown("x.undo();", x.undo());
        shown("x.bites(b, 1);", x.bites(b, 1));
        shown("x.status(0);", x.status(0));
    }

    private static void shown(String call, int answer) {
        String line = page.lines().filter(l -> l.startsWith(call)).findFirst().orElse("");
        Due.holds("README shows " + call + " answering " + answer,
                line.substring(Math.min(line.length(), call.length())).strip().startsWith("// " + answer + ":"));
    }

    private static void tellsAValley() {
        String told = "valley;damp 1;apple 0 5 2;biter 0 7;bite 0 0;days 2;";
        ToffeeWords x = new ToffeeWords();
        Fair.type(x, told);
        int items = x.read();
        Due.holds("README tells a valley of " + items + " items",
                page.contains("`" + told + "`, then `read()`, which answers " + items + ","));
    }
}
