import java.io.IOException;
import java.lang.reflect.InvocationTargetException;
import java.lang.reflect.Method;
import java.lang.reflect.Modifier;
import java.nio.file.Files;
import java.nio.file.Path;
import java.util.ArrayList;
import java.util.Arrays;
import java.util.Comparator;
import java.util.List;
import java.util.Random;
import java.util.Set;
import java.util.TreeSet;
import java.util.stream.Collectors;

/** The face and nothing else, no exception of the machine for any argument, little room, and a program in the rules. */
final class GuardTest {
    private static final long MOST_BYTES = 2_000_000;

    private GuardTest() {
    }

    public static void main(String[] args) throws IOException {
        face();
        anyArguments();
        throwingChangesNothing();
        room();
        language();
        Check.finish("GuardTest");
    }

    private static List<Method> publicMethods() {
        List<Method> methods = new ArrayList<>(Arrays.asList(MarkdownMarket.class.getDeclaredMethods()));
        methods.removeIf(method -> !Modifier.isPublic(method.getModifiers()));
        methods.sort(Comparator.comparing(Method::getName));
        return methods;
    }

    /** The signatures, with the exceptions in their order, are read from the document itself. */
    private static void face() throws IOException {
        Set<String> due = new TreeSet<>();
        boolean inside = false;
        for (String line : Files.readAllLines(Path.of("..", "shared", "DOC.md"))) {
            inside = inside && !line.startsWith("```") || line.startsWith("```java");
            if (inside && line.startsWith("    public ") && line.contains("(")) {
                due.add(line.strip().replaceAll(";$", "").replaceAll(" [a-z]+([,)])", "$1"));
            }
        }
        Set<String> got = new TreeSet<>();
        got.add("public MarkdownMarket()");
        for (Method method : publicMethods()) {
            got.add("public " + method.getReturnType() + " " + method.getName()
                    + "(" + names(method.getParameterTypes()) + ")"
                    + (method.getExceptionTypes().length == 0 ? "" : " throws " + names(method.getExceptionTypes())));
        }
        Check.same("the face", String.join("\n", got), String.join("\n", due));
        Check.same("the face has methods", got.size(), 53);
        Check.same("constants", Arrays.stream(MarkdownMarket.class.getDeclaredFields())
                .filter(field -> !Modifier.isPrivate(field.getModifiers())).count(), 5);
        Check.same("hidden methods", Arrays.stream(MarkdownMarket.class.getDeclaredMethods())
                .filter(method -> !Modifier.isPublic(method.getModifiers()))
                .filter(method -> !Modifier.isPrivate(method.getModifiers())).count(), 0);
        Check.same("final", Modifier.isFinal(MarkdownMarket.class.getModifiers()), true);
    }

    private static String names(Class<?>[] types) {
        return Arrays.stream(types).map(Class::getSimpleName).collect(Collectors.joining(", "));
    }

    private static final int[] EXTREMES = {Integer.MIN_VALUE, Integer.MIN_VALUE + 1, -10000, -1, 0, 1, 2, 5, 6, 23, 24,
        39, 40, 59, 60, 100, 1200, 9999, 10000, Integer.MAX_VALUE - 1, Integer.MAX_VALUE};

    private static MarkdownMarket full() {
        StringBuilder text = new StringBuilder("product a base 9999 life 60 markdown 1 99 markdown 9 5;product b base 1 life 1;");
        text.append("batch 0 a 50;batch 1 b 50;batch 1 a 1;");
        for (int i = 0; i < 38; i++) {
            text.append("buyer ").append(i % 3).append(i % 2 == 0 ? " a 9999" : " b 5");
            text.append(i % 7 == 0 ? " patience 30 strategic 0" : "").append(i % 5 == 0 ? " hold 9;" : ";");
        }
        return Check.market(text.toString());
    }

    private static void anyArguments() {
        Random random = new Random(7);
        for (int run = 0; run < 300; run++) {
            MarkdownMarket market = run % 5 == 0 ? new MarkdownMarket() : full();
            for (int call = 0; call < 100; call++) {
                List<Method> methods = publicMethods();
                Method method = methods.get(random.nextInt(methods.size()));
                Object[] values = new Object[method.getParameterCount()];
                for (int i = 0; i < values.length; i++) {
                    values[i] = EXTREMES[random.nextInt(EXTREMES.length)];
                }
                Check.same(method.getName() + Arrays.toString(values), allowed(market, method, values), true);
            }
        }
    }

    /** An answer, or an exception of just a class that the method names. */
    private static boolean allowed(MarkdownMarket market, Method method, Object[] values) {
        try {
            method.invoke(market, values);
            return true;
        } catch (InvocationTargetException e) {
            return Arrays.asList(method.getExceptionTypes()).contains(e.getCause().getClass());
        } catch (IllegalAccessException e) {
            return false;
        }
    }

    private static void throwingChangesNothing() {
        MarkdownMarket market = full();
        market.run(3);
        String before = Picture.of(market) + Picture.ofTheRest(market);
        for (Method method : publicMethods()) {
            for (int wrong = 0; wrong < method.getParameterCount(); wrong++) {
                for (int extreme : EXTREMES) {
                    Object[] values = new Object[method.getParameterCount()];
                    Arrays.fill(values, 1);
                    values[wrong] = extreme;
                    try {
                        method.invoke(market, values);
                        market = full();
                        market.run(3);
                    } catch (InvocationTargetException e) {
                        Check.same(method.getName() + Arrays.toString(values),
                                Picture.of(market) + Picture.ofTheRest(market), before);
                    } catch (IllegalAccessException e) {
                        Check.same(method.getName(), false, true);
                    }
                }
            }
        }
    }

    /** 512 calls of the dearest kind must not make more than rows that are used again and a few texts. */
    private static void room() {
        com.sun.management.ThreadMXBean threads =
                (com.sun.management.ThreadMXBean) java.lang.management.ManagementFactory.getThreadMXBean();
        MarkdownMarket market = full();
        market.run(2);
        market.saveState();
        long self = Thread.currentThread().getId();
        long before = threads.getThreadAllocatedBytes(self);
        for (int i = 0; i < 512; i++) {
            market.bestPercent(0, 12);
            market.daysToSellOut(0, 60);
            market.regret();
            market.restoreState();
            market.printReport();
        }
        long used = threads.getThreadAllocatedBytes(self) - before;
        Check.same("bytes made in 512 rounds: " + used, used < MOST_BYTES, true);
    }

    /** The rules of LANGUAGE.md that can be seen in the words of the program. */
    private static void language() throws IOException {
        String source = Files.readString(Path.of("src", "main", "java", "MarkdownMarket.java"));
        for (String word : new String[] {"try", "catch", "finally", "synchronized", "assert", "->", "::", "instanceof",
            "static {", "System.out", "Math.random", "Exact(", "java.io", "java.time", "@"}) {
            Check.same("'" + word + "' stands in the program", source.matches("(?s).*(?<!\\w)\\Q" + word + "\\E(?!\\w).*"), false);
        }
        Check.same("imports", source.split("\nimport ").length + (source.startsWith("import ") ? 1 : 0), 2);
        // An empty line stands between two methods, and none within one.
        int length = 0;
        for (String line : source.split("\n")) {
            length = line.isEmpty() ? 0 : length + 1;
            Check.same("a method of more than 60 lines: " + line, length > 60, false);
            Check.same("a long line: " + line, line.length() > 120, false);
        }
    }
}
