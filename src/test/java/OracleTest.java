import java.lang.reflect.InvocationTargetException;
import java.lang.reflect.Method;
import java.lang.reflect.Modifier;
import java.util.ArrayList;
import java.util.Arrays;
import java.util.Comparator;
import java.util.List;
import java.util.Random;

/** All promises: runs of calls, always the same ones, on the program and on the naive market at once. */
final class OracleTest {
    private static final int RUNS = 1500;
    private static final int CALLS = 60;
    /** One run in so many is of a market that is full of batches and buyers. */
    private static final int CROWDED = 50;

    private final Random random;
    private final List<Method> face = new ArrayList<>();
    private MarkdownMarket market;
    private NaiveMarket naive;
    private final List<String> history = new ArrayList<>();

    private OracleTest(long seed) {
        random = new Random(seed);
        for (Method method : MarkdownMarket.class.getDeclaredMethods()) {
            if (Modifier.isPublic(method.getModifiers())) {
                face.add(method);
            }
        }
        face.sort(Comparator.comparing(Method::getName));
    }

    public static void main(String[] args) {
        int runs = args.length > 0 ? Integer.parseInt(args[0]) : RUNS;
        int first = args.length > 1 ? Integer.parseInt(args[1]) : 0;
        for (int i = first; i < first + runs; i++) {
            new OracleTest(i).play(i);
        }
        Check.same("runs", runs, runs);
        Check.finish("OracleTest");
    }

    private void play(int run) {
        market = new MarkdownMarket();
        naive = new NaiveMarket();
        history.clear();
        if (run % CROWDED == 1) {
            crowd();
        } else if (random.nextInt(20) > 0) {
            load(text());
        }
        for (int i = 0; i < CALLS; i++) {
            step();
        }
        compareAll();
        Check.same("run " + run + " agrees", true, true);
    }

    /** As many batches and buyers as there may be, few units for many, and all on a few days. */
    private void crowd() {
        int products = 1 + random.nextInt(2);
        int life = 1 + random.nextInt(4);
        load("product a base 50 life " + life + " markdown 1 70;product b base 20 life " + (life + 2) + ";");
        for (int day = 0; day < 6; day++) {
            for (int i = 0; i < 4; i++) {
                both("addBatch", random.nextInt(products), 1 + random.nextInt(2) * random.nextInt(4));
            }
            for (int i = 0; i < 7; i++) {
                both("addBuyer", random.nextInt(products), random.nextInt(90), random.nextInt(6),
                        random.nextInt(3) == 0 ? random.nextInt(9) : -1, random.nextInt(2) * random.nextInt(9),
                        random.nextInt(3) == 0 ? 1 + random.nextInt(4) : 0);
            }
            both("run", 1);
        }
    }

    private void step() {
        int kind = random.nextInt(20);
        if (kind < 6) {
            both("run", pick(1, 1, 1, 2, 3, random.nextInt(62)));
        } else if (kind == 6 && random.nextInt(6) == 0) {
            load(random.nextBoolean() ? text() : damaged(text()));
        } else if (kind < 10) {
            changeSomething();
        } else {
            Method method = face.get(random.nextInt(face.size()));
            int[] arguments = new int[method.getParameterCount()];
            for (int i = 0; i < arguments.length; i++) {
                arguments[i] = random.nextInt(30) == 0 ? random.nextInt() : random.nextInt(12) - 1;
            }
            both(method.getName(), arguments);
        }
        if (random.nextInt(4) == 0) {
            compareAll();
        }
    }

    private void changeSomething() {
        int product = random.nextInt(3);
        switch (random.nextInt(10)) {
            case 0 -> both("addBuyer", product, random.nextInt(150), random.nextInt(8), random.nextInt(30) - 1,
                    random.nextInt(2) * random.nextInt(12), random.nextInt(2) * random.nextInt(10));
            case 1 -> both("addBatch", product, 1 + random.nextInt(3));
            case 2 -> both("setBase", product, pick(1, 9999, 50 + random.nextInt(80)));
            case 3 -> both("setFee", random.nextInt(101));
            case 4 -> both("markDown", product, 1 + random.nextInt(6), random.nextInt(101));
            case 5 -> both("removeStep", product, random.nextInt(7));
            case 6 -> {
                for (int i = 0; i < market.waiting() && i < 3; i++) {
                    both("sell", market.waitingBuyer(i), random.nextInt(6), random.nextInt(120));
                }
            }
            case 7 -> both("release", market.holds() > 0 ? market.hold(0, 0) : 0);
            case 8 -> both("discard", random.nextInt(8));
            default -> both(random.nextBoolean() ? "saveState" : "restoreState");
        }
    }

    // ---------------------------------------------------------------- texts

    private String text() {
        StringBuilder text = new StringBuilder();
        if (random.nextBoolean()) {
            text.append("fee ").append(random.nextInt(101)).append(';');
        }
        int products = 1 + random.nextInt(3);
        for (int i = 0; i < products; i++) {
            text.append("product ").append((char) ('a' + i)).append(" base ").append(pick(100, 60, 1, 9999, 97));
            text.append(" life ").append(pick(1, 3, 5, 8, 60, 1 + random.nextInt(10)));
            int age = 0;
            for (int steps = random.nextInt(6); steps > 0; steps--) {
                age += 1 + random.nextInt(2);
                text.append(" markdown ").append(age).append(' ').append(random.nextInt(101));
            }
            text.append(';');
        }
        int batches = random.nextInt(9);
        for (int i = 0; i < batches; i++) {
            text.append("batch ").append(random.nextInt(10)).append(' ').append((char) ('a' + random.nextInt(products)));
            text.append(' ').append(pick(1, 1, 2, 3, 50)).append(';');
        }
        int buyers = random.nextInt(18);
        for (int i = 0; i < buyers; i++) {
            text.append(buyerText(products));
        }
        String all = text.toString();
        return all.length() <= 1200 ? all : all.substring(0, all.lastIndexOf(';', 1199) + 1);
    }

    private String buyerText(int products) {
        StringBuilder text = new StringBuilder("buyer ");
        text.append(random.nextInt(10)).append(' ').append((char) ('a' + random.nextInt(products))).append(' ');
        text.append(pick(0, 9999, 100, 60, random.nextInt(150), random.nextInt(150)));
        if (random.nextBoolean()) {
            text.append(" patience ").append(random.nextInt(8));
        }
        if (random.nextBoolean()) {
            text.append(" strategic ").append(pick(0, 1, 5, 20));
        }
        if (random.nextBoolean()) {
            text.append(" stale ").append(pick(0, 1, 5, 20));
        }
        if (random.nextInt(3) == 0) {
            text.append(" hold ").append(1 + random.nextInt(4));
        }
        return text.append(";").toString();
    }

    /** Changes a sign, cuts the text, or takes out, doubles or swaps words of it. */
    private String damaged(String text) {
        if (text.isEmpty()) {
            return ";";
        }
        int at = random.nextInt(text.length());
        String signs = " ;0919az\n\t*\u00ffA";
        String[] words = {"fee 1;", " markdown 3 5", "9", "0", "product", "x", " hold ", "buyer 1 a 1;", "batch 1 b 2;",
            "product a base 1 life 1;", "99999", "strategic 4"};
        String changed = switch (random.nextInt(4)) {
            case 0 -> text.substring(0, at) + signs.charAt(random.nextInt(signs.length())) + text.substring(at + 1);
            case 1 -> text.substring(0, at);
            case 2 -> text.substring(0, at) + words[random.nextInt(words.length)] + text.substring(at);
            default -> text.substring(0, at) + text.substring(Math.min(text.length(), at + 1 + random.nextInt(9)));
        };
        return changed.length() > 1200 ? changed.substring(0, 1200) : changed;
    }

    private void load(String text) {
        both("truncateInput", 0);
        for (int at = 0; at < text.length(); at += 20) {
            int[] words = new int[5];
            for (int i = 0; i < 20; i++) {
                int sign = at + i < text.length() ? text.charAt(at + i) & 255 : 'x';
                words[i / 4] = words[i / 4] << 8 | sign;
            }
            both("appendInput", words);
        }
        both("truncateInput", text.length());
        history.add("text " + text);
        both("loadMarket");
        both("errorCode");
        both("errorOffset");
    }

    private int pick(int... from) {
        return from[random.nextInt(from.length)];
    }

    // ---------------------------------------------------------------- comparing

    private void compareAll() {
        for (String name : new String[] {"products", "day", "buyers", "waiting", "holds", "income", "welfare",
            "hindsight", "mostServed", "efficiency", "regret", "events", "errorCode", "errorOffset"}) {
            both(name);
        }
        for (int i = 0; i <= market.products(); i++) {
            compareProduct(i);
        }
        for (int i = 0; i <= market.buyers(); i++) {
            for (String name : new String[] {"buyerState", "bestBatch", "bestSurplus", "waitsFor"}) {
                both(name, i);
            }
            for (int what = 0; what <= 7; what++) {
                both("buyer", i, what);
            }
        }
        for (int i = 0; i <= market.waiting(); i++) {
            both("waitingBuyer", i);
        }
        for (int what = 0; what <= 5; what++) {
            for (int i = 0; i <= market.holds(); i++) {
                both("hold", i, what);
            }
            for (int i = 0; what <= 4 && i <= market.events(); i++) {
                both("event", i, what);
            }
        }
        int length = market.printReport();
        both("printReport");
        for (int i = 0; i <= length; i++) {
            both("outputByte", i);
        }
    }

    private void compareProduct(int product) {
        for (String name : new String[] {"batches", "bestFixedPrice", "meanSoldAge", "wasteShare", "expiring"}) {
            both(name, product);
        }
        for (int what = 0; what <= 11; what++) {
            both("figure", product, what);
        }
        for (int age = 0; age <= 13; age++) {
            both("percentAt", product, age);
            both("priceAt", product, age);
        }
        for (int i = 0; product < market.products() && i <= market.batches(product); i++) {
            for (int what = 0; what <= 6; what++) {
                both("batch", product, i, what);
            }
        }
        both("fixedResult", product, 1 + random.nextInt(120));
        both("demand", product, random.nextInt(120));
        both("bestPercent", product, 1 + random.nextInt(12));
        both("daysToSellOut", product, 1 + random.nextInt(12));
    }

    private void both(String name, int... arguments) {
        String call = name + Arrays.toString(arguments);
        history.add(call);
        String got = answer(market, name, arguments);
        String due = answer(naive, name, arguments);
        if (!got.equals(due)) {
            history.subList(0, Math.max(0, history.size() - 400)).clear();
            history.forEach(System.out::println);
            Check.same(call, got, due);
            Check.finish("OracleTest");
        }
    }

    private static String answer(Object of, String name, int[] arguments) {
        Class<?>[] types = new Class<?>[arguments.length];
        Object[] values = new Object[arguments.length];
        for (int i = 0; i < arguments.length; i++) {
            types[i] = int.class;
            values[i] = arguments[i];
        }
        try {
            Method method = of.getClass().getDeclaredMethod(name, types);
            method.setAccessible(true);
            return String.valueOf(method.invoke(of, values));
        } catch (InvocationTargetException e) {
            return e.getCause().getClass().getName();
        } catch (ReflectiveOperationException e) {
            throw new IllegalStateException(e);
        }
    }
}
