import java.io.IOException;
import java.nio.file.Files;
import java.nio.file.Path;
import java.util.Arrays;
import java.util.List;
import java.util.Set;
import java.util.TreeSet;
import java.util.regex.Matcher;
import java.util.regex.Pattern;
import java.util.stream.Collectors;

/** What README.md tells: its example is played line by line, and its table names all that can be called. */
final class ReadmeTest {
    private static final Pattern TEXT = Pattern.compile("put\\(market, \"(.*)\"\\);");
    private static final Pattern CALL = Pattern.compile("market\\.([a-zA-Z]+)\\(([0-9, ]*)\\); *// (-?[0-9.]+): .*");

    private ReadmeTest() {
    }

    public static void main(String[] args) throws IOException {
        List<String> lines = Files.readAllLines(Path.of("README.md"));
        example(lines);
        table(lines);
        Check.finish("ReadmeTest");
    }

    private static void example(List<String> lines) {
        MarkdownMarket market = new MarkdownMarket();
        int calls = 0;
        for (String line : lines) {
            Matcher text = TEXT.matcher(line);
            Matcher call = CALL.matcher(line);
            if (text.matches()) {
                Check.same("the text loads", Check.load(market, text.group(1)), 1);
            } else if (call.matches()) {
                calls++;
                Check.same(line, answer(market, call.group(1), call.group(2)), call.group(3));
            }
        }
        Check.same("calls with an answer", calls, 11);
        market.printReport();
        Check.same("the report", String.join("\n", lines).contains("\"egg:2/3 135;\""), true);
        Check.same("the report after going back", Check.output(market), "egg:1/3 90;");
    }

    private static String answer(MarkdownMarket market, String name, String numbers) {
        Object[] values = Arrays.stream(numbers.split(", *")).filter(n -> !n.isEmpty()).map(Integer::valueOf).toArray();
        Class<?>[] types = new Class<?>[values.length];
        Arrays.fill(types, int.class);
        try {
            return String.valueOf(MarkdownMarket.class.getMethod(name, types).invoke(market, values));
        } catch (ReflectiveOperationException e) {
            return e.toString();
        }
    }

    private static void table(List<String> lines) {
        Set<String> named = new TreeSet<>();
        for (String line : lines) {
            Matcher name = Pattern.compile("`([a-zA-Z]+)`").matcher(line);
            while (line.startsWith("| ") && name.find()) {
                Check.same(name.group(1) + " is named once", named.add(name.group(1)), true);
            }
        }
        Set<String> due = Arrays.stream(MarkdownMarket.class.getMethods())
                .filter(method -> method.getDeclaringClass() == MarkdownMarket.class)
                .map(method -> method.getName()).collect(Collectors.toCollection(TreeSet::new));
        Check.same("the table", String.join(" ", named), String.join(" ", due));
    }
}
