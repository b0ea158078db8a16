import java.io.IOException;
import java.lang.reflect.Method;
import java.nio.file.DirectoryStream;
import java.nio.file.Files;
import java.nio.file.Path;
import java.util.NoSuchElementException;
import java.util.regex.Matcher;
import java.util.regex.Pattern;

/** What README.md shows is so: its calls, one after the other, answer what stands behind them. */
public final class ReadmeTest {
    private static final Path ROOT = Path.of(System.getProperty("project.root", "."));
    private static final Pattern CALL = Pattern.compile("court\\.(\\w+)\\((.*)\\); +// (-?\\d+|true|\\w+Exception).*");

    public static void main(String[] args) throws IOException {
        String page = Files.readString(ROOT.resolve("README.md"));
        theCalls(page);
        theNames(page);
        Check.close("ReadmeTest");
    }

    private static void theCalls(String page) {
        BenchComposer court = new BenchComposer();
        int calls = 0;
        for (String line : page.split("\n")) {
            Matcher told = CALL.matcher(line);
            if (told.matches()) {
                theCall(court, told);
                calls++;
            } else {
                Check.due("it can be read: " + line, line.startsWith("court."), false);
            }
        }
        Check.due("calls are shown", calls > 0, true);
    }

    private static void theCall(BenchComposer court, Matcher told) {
        String[] written = told.group(2).isEmpty() ? new String[0] : told.group(2).split(", ");
        Object[] given = new Object[written.length];
        for (int i = 0; i < given.length; i++) {
            given[i] = Integer.decode(written[i]);
        }
        Method method = Calls.named(told.group(1));
        String got = Calls.answer(court, method, given);
        String plain = got.equals(NoSuchElementException.class.getName()) ? "NoSuchElementException" : got;
        Check.due(Calls.told(method, given) + " answered " + plain + ", not " + told.group(3) + ": this",
                plain.equals(told.group(3)), true);
    }

    private static void theNames(String page) throws IOException {
        for (Method method : Calls.ALL) {
            Check.due("it shows " + method.getName(), page.contains("court." + method.getName() + "("), true);
        }
        try (DirectoryStream<Path> tests = Files.newDirectoryStream(ROOT.resolve("src/test/java"), "*Test.java")) {
            for (Path test : tests) {
                String name = test.getFileName().toString().replace(".java", "");
                Check.due("it names " + name, page.contains("- `" + name + "`:"), true);
            }
        }
    }
}
