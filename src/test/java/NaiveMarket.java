import java.nio.charset.StandardCharsets;
import java.util.ArrayList;
import java.util.Arrays;
import java.util.List;
import java.util.NoSuchElementException;
import java.util.regex.Matcher;
import java.util.regex.Pattern;

/**
 * The document once more, with every unit as an object of its own, whole copies for the future, and flows for the
 * hindsight: slow and wasteful, and as unlike the program as it could be made.
 */
final class NaiveMarket {
    static final class Unit {
        int batch;
        /** 0 to come, 1 free, 2 held, 3 bought, 4 discarded. */
        int fate;
        int soldAge;
    }

    static final class Lot {
        int product;
        int day;
        List<Unit> units = new ArrayList<>();
    }

    static final class Shopper {
        int product;
        int value;
        int arrival;
        int leaving;
        int cost;
        int stale;
        int reserve;
        int state;
        int paid;
        int end = -1;
        Unit unit;
    }

    static final class Hold {
        Shopper shopper;
        int price;
        int deposit;
        int end;
    }

    static final class Good {
        String name;
        int base;
        int life;
        int[] ladder = new int[60];
        int revenue;
        int forfeited;
    }

    static final class State {
        int fee = 10;
        int day = -1;
        List<Good> goods = new ArrayList<>();
        List<Lot> lots = new ArrayList<>();
        List<Shopper> shoppers = new ArrayList<>();
        List<Hold> holds = new ArrayList<>();
        List<int[]> events = new ArrayList<>();

        State copy() {
            State c = new State();
            c.fee = fee;
            c.day = day;
            for (Good g : goods) {
                Good n = new Good();
                n.name = g.name;
                n.base = g.base;
                n.life = g.life;
                n.ladder = g.ladder.clone();
                n.revenue = g.revenue;
                n.forfeited = g.forfeited;
                c.goods.add(n);
            }
            List<Unit> oldUnits = new ArrayList<>();
            List<Unit> newUnits = new ArrayList<>();
            for (Lot l : lots) {
                Lot n = new Lot();
                n.product = l.product;
                n.day = l.day;
                for (Unit u : l.units) {
                    Unit v = new Unit();
                    v.batch = u.batch;
                    v.fate = u.fate;
                    v.soldAge = u.soldAge;
                    n.units.add(v);
                    oldUnits.add(u);
                    newUnits.add(v);
                }
                c.lots.add(n);
            }
            for (Shopper s : shoppers) {
                Shopper n = new Shopper();
                n.product = s.product;
                n.value = s.value;
                n.arrival = s.arrival;
                n.leaving = s.leaving;
                n.cost = s.cost;
                n.stale = s.stale;
                n.reserve = s.reserve;
                n.state = s.state;
                n.paid = s.paid;
                n.end = s.end;
                n.unit = s.unit == null ? null : newUnits.get(oldUnits.indexOf(s.unit));
                c.shoppers.add(n);
            }
            for (Hold h : holds) {
                Hold n = new Hold();
                n.shopper = c.shoppers.get(shoppers.indexOf(h.shopper));
                n.price = h.price;
                n.deposit = h.deposit;
                n.end = h.end;
                c.holds.add(n);
            }
            for (int[] e : events) {
                c.events.add(e.clone());
            }
            return c;
        }
    }

    private byte[] input = new byte[0];
    private String output = "";
    private int code = 0;
    private int offset = -1;
    private State s = new State();
    private State kept = null;

    // ---------------------------------------------------------------- text

    static final class Bad extends RuntimeException {
        private static final long serialVersionUID = 1L;
        final int code;
        final int offset;

        Bad(int code, int offset) {
            this.code = code;
            this.offset = offset;
        }
    }

    static final class Tokens {
        final List<String> texts = new ArrayList<>();
        final List<Integer> starts = new ArrayList<>();
        int next = 0;

        Tokens(String text) {
            Matcher m = Pattern.compile("[a-z]+|[0-9]+|.", Pattern.DOTALL).matcher(text);
            while (m.find()) {
                if (!m.group().equals(" ") && !m.group().equals("\n")) {
                    texts.add(m.group());
                    starts.add(m.start());
                }
            }
            texts.add("");
            starts.add(text.length());
        }

        String see() {
            return texts.get(next);
        }

        Bad bad(int code) {
            return new Bad(code, starts.get(next));
        }

        void take(String word) {
            if (!see().equals(word)) {
                throw bad(1);
            }
            next++;
        }

        int number(int least, int most) {
            if (!see().matches("[0-9]{1,4}")) {
                throw bad(1);
            }
            int n = Integer.parseInt(see());
            if (n < least || n > most) {
                throw bad(2);
            }
            next++;
            return n;
        }

        int option(String word, int least, int most, int without) {
            if (!see().equals(word)) {
                return without;
            }
            next++;
            return number(least, most);
        }

        int product(State to, boolean fresh) {
            if (!see().matches("[a-z]{1,8}") || Arrays.asList("fee", "product", "base", "life", "markdown", "batch",
                    "buyer", "patience", "strategic", "stale", "hold").contains(see())) {
                throw bad(1);
            }
            int found = -1;
            for (int i = 0; i < to.goods.size(); i++) {
                found = to.goods.get(i).name.equals(see()) ? i : found;
            }
            if (fresh != (found < 0)) {
                throw bad(3);
            }
            next++;
            return found;
        }
    }

    private static State parse(String text) {
        State to = new State();
        Tokens t = new Tokens(text);
        boolean fee = false;
        while (!t.see().isEmpty()) {
            switch (t.see()) {
                case "fee" -> {
                    if (fee) {
                        throw t.bad(4);
                    }
                    fee = true;
                    t.next++;
                    to.fee = t.number(0, 100);
                }
                case "product" -> parseProduct(t, to);
                case "batch" -> {
                    if (to.lots.size() == 24) {
                        throw t.bad(4);
                    }
                    t.next++;
                    int day = t.number(0, 999);
                    int product = t.product(to, false);
                    addLot(to, product, day, t.number(1, 50));
                }
                case "buyer" -> {
                    if (to.shoppers.size() == 40) {
                        throw t.bad(4);
                    }
                    t.next++;
                    Shopper b = new Shopper();
                    b.arrival = t.number(0, 999);
                    b.product = t.product(to, false);
                    b.value = t.number(0, 9999);
                    b.leaving = b.arrival + t.option("patience", 0, 30, 0);
                    b.cost = t.option("strategic", 0, 99, -1);
                    b.stale = t.option("stale", 0, 99, 0);
                    b.reserve = t.option("hold", 1, 9, 0);
                    to.shoppers.add(b);
                }
                default -> throw t.bad(1);
            }
            t.take(";");
        }
        return to;
    }

    private static void parseProduct(Tokens t, State to) {
        if (to.goods.size() == 6) {
            throw t.bad(4);
        }
        t.next++;
        Good g = new Good();
        g.name = t.see();
        t.product(to, true);
        t.take("base");
        g.base = t.number(1, 9999);
        t.take("life");
        g.life = t.number(1, 60);
        Arrays.fill(g.ladder, -1);
        int age = 0;
        int steps = 0;
        while (t.see().equals("markdown")) {
            if (steps == 5) {
                throw t.bad(4);
            }
            steps++;
            t.next++;
            age = t.number(age + 1, 59);
            g.ladder[age] = t.number(0, 100);
        }
        to.goods.add(g);
    }

    private static void addLot(State to, int product, int day, int units) {
        Lot l = new Lot();
        l.product = product;
        l.day = day;
        for (int i = 0; i < units; i++) {
            Unit u = new Unit();
            u.batch = to.lots.size();
            l.units.add(u);
        }
        to.lots.add(l);
    }

    public int appendInput(int a, int b, int c, int d, int e) {
        if (input.length > 1180) {
            return -1;
        }
        byte[] longer = Arrays.copyOf(input, input.length + 20);
        int[] all = {a, b, c, d, e};
        for (int i = 0; i < 20; i++) {
            longer[input.length + i] = (byte) (all[i / 4] >>> (24 - 8 * (i % 4)));
        }
        input = longer;
        return input.length;
    }

    public boolean truncateInput(int length) {
        if (length < 0 || length > input.length) {
            return false;
        }
        input = Arrays.copyOf(input, length);
        return true;
    }

    public int loadMarket() {
        String text = new String(input, StandardCharsets.ISO_8859_1);
        input = new byte[0];
        try {
            s = parse(text);
        } catch (Bad bad) {
            code = bad.code;
            offset = bad.offset;
            return -1;
        }
        code = 0;
        offset = -1;
        kept = null;
        return s.goods.size();
    }

    public int errorCode() {
        return code;
    }

    public int errorOffset() {
        return offset;
    }

    // ---------------------------------------------------------------- days

    private static int percent(Good g, int age) {
        for (int a = Math.min(age, 59); a >= 0; a--) {
            if (g.ladder[a] >= 0) {
                return g.ladder[a];
            }
        }
        return 100;
    }

    private static int price(State s, Lot l, int day) {
        Good g = s.goods.get(l.product);
        return g.base * percent(g, day - l.day) / 100;
    }

    private static int surplus(State s, Shopper b, Lot l, int day) {
        return b.value - price(s, l, day) - b.stale * (day - l.day);
    }

    private static int count(Lot l, int fate) {
        return (int) l.units.stream().filter(u -> u.fate == fate).count();
    }

    private static List<Lot> offers(State s, Shopper b) {
        return s.lots.stream().filter(l -> l.product == b.product && count(l, 1) > 0).toList();
    }

    private static Lot best(State s, Shopper b) {
        List<Lot> good = new ArrayList<>(offers(s, b).stream().filter(l -> surplus(s, b, l, s.day) >= 0).toList());
        good.sort((x, y) -> {
            int bySurplus = Integer.compare(surplus(s, b, y, s.day), surplus(s, b, x, s.day));
            int byPrice = Integer.compare(price(s, x, s.day), price(s, y, s.day));
            int byDay = Integer.compare(x.day, y.day);
            int byNumber = Integer.compare(s.lots.indexOf(x), s.lots.indexOf(y));
            return bySurplus != 0 ? bySurplus : byPrice != 0 ? byPrice : byDay != 0 ? byDay : byNumber;
        });
        return good.isEmpty() ? null : good.get(0);
    }

    private static int wish(State s, Shopper b) {
        Lot best = best(s, b);
        if (b.cost < 0 || best == null) {
            return -1;
        }
        int day = -1;
        long most = surplus(s, b, best, s.day);
        for (int e = s.day + 1; e <= b.leaving; e++) {
            for (Lot l : offers(s, b)) {
                if (e - l.day < s.goods.get(l.product).life) {
                    long x = (long) surplus(s, b, l, e) - (long) b.cost * (e - s.day);
                    if (x > most) {
                        most = x;
                        day = e;
                    }
                }
            }
        }
        return day;
    }

    private static void log(State s, int kind, int number, int amount) {
        s.events.add(new int[] {s.day, kind, number, amount});
        if (s.events.size() > 20) {
            s.events.remove(0);
        }
    }

    private static Unit pick(Lot l, int fate) {
        return l.units.stream().filter(u -> u.fate == fate).findFirst().orElseThrow();
    }

    private static void buy(State s, Shopper b, Unit u, int price, int still, int kind) {
        u.fate = 3;
        u.soldAge = s.day - s.lots.get(u.batch).day;
        b.state = 3;
        b.end = s.day;
        b.unit = u;
        b.paid += still;
        s.goods.get(b.product).revenue += price;
        log(s, kind, s.shoppers.indexOf(b), price);
    }

    private static void leave(State s, Shopper b) {
        b.state = 4;
        b.end = s.day;
        b.unit = null;
        log(s, 6, s.shoppers.indexOf(b), b.value);
    }

    private static int pass(State s) {
        int before = (int) s.shoppers.stream().filter(b -> b.state == 3).count();
        s.day++;
        for (int i = 0; i < s.lots.size(); i++) {
            Lot l = s.lots.get(i);
            if (s.day - l.day >= s.goods.get(l.product).life) {
                int gone = count(l, 1) + count(l, 2);
                l.units.forEach(u -> u.fate = u.fate == 1 || u.fate == 2 ? 4 : u.fate);
                if (gone > 0) {
                    log(s, 5, i, gone);
                }
                for (Hold h : new ArrayList<>(s.holds)) {
                    if (h.shopper.unit.batch == i) {
                        s.holds.remove(h);
                        h.shopper.paid -= h.deposit;
                        leave(s, h.shopper);
                    }
                }
            }
        }
        for (int i = 0; i < s.lots.size(); i++) {
            if (s.lots.get(i).day == s.day) {
                s.lots.get(i).units.forEach(u -> u.fate = 1);
                log(s, 0, i, s.lots.get(i).units.size());
            }
        }
        for (Hold h : new ArrayList<>(s.holds)) {
            if (h.end == s.day) {
                s.holds.remove(h);
                finish(s, h);
            }
        }
        List<Shopper> waiting = line(s);
        for (Shopper b : s.shoppers) {
            if (b.arrival == s.day) {
                b.state = 1;
                waiting.add(b);
            }
        }
        waiting.forEach(b -> ask(s, b));
        waiting.stream().filter(b -> b.state == 1 && b.leaving <= s.day).forEach(b -> leave(s, b));
        return (int) s.shoppers.stream().filter(b -> b.state == 3).count() - before;
    }

    private static void finish(State s, Hold h) {
        Shopper b = h.shopper;
        Lot best = best(s, b);
        Lot own = s.lots.get(b.unit.batch);
        int r = b.value - h.price + h.deposit - b.stale * (s.day - own.day);
        if (r >= 0 && (best == null || r >= surplus(s, b, best, s.day))) {
            buy(s, b, b.unit, h.price, h.price - h.deposit, 3);
            return;
        }
        s.goods.get(b.product).forfeited += h.deposit;
        log(s, 4, s.shoppers.indexOf(b), h.deposit);
        Unit old = b.unit;
        Unit other = best == null ? null : pick(best, 1);
        old.fate = 1;
        if (other == null) {
            leave(s, b);
        } else {
            int price = price(s, best, s.day);
            buy(s, b, other, price, price, 1);
        }
    }

    private static void ask(State s, Shopper b) {
        Lot best = best(s, b);
        if (best == null || wish(s, b) >= 0) {
            return;
        }
        int price = price(s, best, s.day);
        if (b.reserve == 0) {
            buy(s, b, pick(best, 1), price, price, 1);
            return;
        }
        Hold h = new Hold();
        h.shopper = b;
        h.price = price;
        h.deposit = price * s.fee / 100;
        h.end = s.day + b.reserve;
        b.unit = pick(best, 1);
        b.unit.fate = 2;
        b.state = 2;
        b.paid += h.deposit;
        s.holds.add(h);
        log(s, 2, s.shoppers.indexOf(b), price);
    }

    private static List<Shopper> line(State s) {
        List<Shopper> line = new ArrayList<>(s.shoppers.stream().filter(b -> b.state == 1).toList());
        line.sort((x, y) -> Integer.compare(x.arrival, y.arrival));
        return line;
    }

    // ---------------------------------------------------------------- questions

    private Good good(int product) {
        if (product < 0 || product >= s.goods.size()) {
            throw new IndexOutOfBoundsException();
        }
        return s.goods.get(product);
    }

    private Shopper shopper(int buyer) {
        if (buyer < 0 || buyer >= s.shoppers.size()) {
            throw new IndexOutOfBoundsException();
        }
        return s.shoppers.get(buyer);
    }

    private Lot lot(int batch) {
        if (batch < 0 || batch >= s.lots.size()) {
            throw new IndexOutOfBoundsException();
        }
        return s.lots.get(batch);
    }

    private static void need(int number, int least, int most) {
        if (number < least || number > most) {
            throw new IllegalArgumentException();
        }
    }

    public int products() {
        return s.goods.size();
    }

    public int day() {
        return s.day;
    }

    public int run(int days) {
        need(days, 1, 60);
        int sum = 0;
        for (int i = 0; i < days; i++) {
            sum += pass(s);
        }
        return sum;
    }

    public int percentAt(int product, int age) {
        Good g = good(product);
        need(age, 0, 59);
        return percent(g, age);
    }

    public int priceAt(int product, int age) {
        Good g = good(product);
        need(age, 0, 59);
        return g.base * percent(g, age) / 100;
    }

    private int units(int product, int fate) {
        return s.lots.stream().filter(l -> l.product == product).mapToInt(l -> count(l, fate)).sum();
    }

    private int shoppers(int product, int least, int most) {
        return (int) s.shoppers.stream().filter(b -> b.product == product && b.state >= least && b.state <= most).count();
    }

    public int figure(int product, int what) {
        Good g = good(product);
        need(what, 0, 10);
        int delivered = units(product, 1) + units(product, 2) + units(product, 3) + units(product, 4);
        return new int[] {delivered, units(product, 3), units(product, 1), units(product, 2), units(product, 4),
            g.revenue, g.forfeited, g.base, g.life, shoppers(product, 1, 4), shoppers(product, 4, 4)}[what];
    }

    private List<Lot> stocked(State of, int product) {
        return of.lots.stream().filter(l -> l.product == product && count(l, 1) + count(l, 2) > 0).toList();
    }

    public int batches(int product) {
        good(product);
        return stocked(s, product).size();
    }

    public int batch(int product, int index, int what) {
        good(product);
        List<Lot> all = stocked(s, product);
        if (index < 0 || index >= all.size()) {
            throw new NoSuchElementException();
        }
        need(what, 0, 5);
        Lot l = all.get(index);
        return new int[] {s.lots.indexOf(l), l.day, count(l, 1), count(l, 2), price(s, l, s.day), s.day - l.day}[what];
    }

    public int buyers() {
        return s.shoppers.size();
    }

    public int buyerState(int buyer) {
        return shopper(buyer).state;
    }

    public int buyer(int buyer, int what) {
        Shopper b = shopper(buyer);
        need(what, 0, 6);
        return new int[] {b.product, b.value, b.arrival, b.leaving, b.paid, b.end,
            b.unit == null ? -1 : b.unit.batch}[what];
    }

    public int waiting() {
        return line(s).size();
    }

    public int waitingBuyer(int index) {
        if (index < 0 || index >= line(s).size()) {
            throw new NoSuchElementException();
        }
        return s.shoppers.indexOf(line(s).get(index));
    }

    public int bestBatch(int buyer) {
        Lot l = best(s, shopper(buyer));
        return l == null ? -1 : s.lots.indexOf(l);
    }

    public int bestSurplus(int buyer) {
        Lot l = best(s, shopper(buyer));
        return l == null ? -1 : surplus(s, shopper(buyer), l, s.day);
    }

    public int waitsFor(int buyer) {
        return wish(s, shopper(buyer));
    }

    public int holds() {
        return s.holds.size();
    }

    public int hold(int index, int what) {
        if (index < 0 || index >= s.holds.size()) {
            throw new NoSuchElementException();
        }
        need(what, 0, 4);
        Hold h = s.holds.get(index);
        return new int[] {s.shoppers.indexOf(h.shopper), h.shopper.unit.batch, h.price, h.deposit, h.end}[what];
    }

    public int addBuyer(int product, int value, int patience, int strategic, int stale, int hold) {
        good(product);
        need(value, 0, 9999);
        need(patience, 0, 30);
        need(strategic, -1, 99);
        need(stale, 0, 99);
        need(hold, 0, 9);
        if (s.shoppers.size() == 40) {
            throw new IllegalStateException();
        }
        Shopper b = new Shopper();
        b.product = product;
        b.value = value;
        b.arrival = s.day + 1;
        b.leaving = b.arrival + patience;
        b.cost = strategic;
        b.stale = stale;
        b.reserve = hold;
        s.shoppers.add(b);
        return s.shoppers.size() - 1;
    }

    public int addBatch(int product, int units) {
        good(product);
        need(units, 1, 50);
        if (s.lots.size() == 24) {
            throw new IllegalStateException();
        }
        addLot(s, product, s.day + 1, units);
        return s.lots.size() - 1;
    }

    public int setBase(int product, int base) {
        Good g = good(product);
        need(base, 1, 9999);
        int old = g.base;
        g.base = base;
        return old;
    }

    public int setFee(int fee) {
        need(fee, 0, 100);
        int old = s.fee;
        s.fee = fee;
        return old;
    }

    public int markDown(int product, int age, int percent) {
        Good g = good(product);
        need(age, 1, 59);
        need(percent, 0, 100);
        long steps = Arrays.stream(g.ladder).filter(p -> p >= 0).count();
        if (g.ladder[age] < 0 && steps == 5) {
            throw new IllegalStateException();
        }
        g.ladder[age] = percent;
        return (int) Arrays.stream(g.ladder).filter(p -> p >= 0).count();
    }

    public boolean removeStep(int product, int age) {
        Good g = good(product);
        if (age < 1 || age > 59 || g.ladder[age] < 0) {
            return false;
        }
        g.ladder[age] = -1;
        return true;
    }

    public int sell(int buyer, int batch, int price) {
        Shopper b = shopper(buyer);
        Lot l = lot(batch);
        need(price, 0, 9999);
        int left = b.value - price - b.stale * (s.day - l.day);
        if (b.state != 1 || l.product != b.product || count(l, 1) == 0 || left < 0) {
            throw new IllegalStateException();
        }
        buy(s, b, pick(l, 1), price, price, 1);
        return left;
    }

    public int release(int buyer) {
        Shopper b = shopper(buyer);
        if (b.state != 2) {
            throw new IllegalStateException();
        }
        Hold h = s.holds.stream().filter(x -> x.shopper == b).findFirst().orElseThrow();
        s.holds.remove(h);
        b.paid -= h.deposit;
        b.unit.fate = 1;
        leave(s, b);
        return h.deposit;
    }

    public int discard(int batch) {
        Lot l = lot(batch);
        int units = count(l, 1);
        l.units.forEach(u -> u.fate = u.fate == 1 ? 4 : u.fate);
        if (units > 0) {
            log(s, 5, batch, units);
        }
        return units;
    }

    // ---------------------------------------------------------------- results

    private static int incomeOf(State of) {
        return of.goods.stream().mapToInt(g -> g.revenue + g.forfeited).sum();
    }

    public int income() {
        return incomeOf(s);
    }

    public int welfare() {
        return s.shoppers.stream().filter(b -> b.state == 3).mapToInt(b -> b.value).sum();
    }

    private boolean fit(Shopper b, Lot l) {
        boolean fits = false;
        for (int d = b.arrival; d <= b.leaving; d++) {
            fits |= d - l.day >= 0 && d - l.day < s.goods.get(l.product).life;
        }
        return fits && b.product == l.product && b.state > 0 && l.day <= s.day;
    }

    /** The greatest weight of an assignment, by the cheapest ways of a flow; a weight below 0 keeps a buyer out. */
    private int assign(int[] weights) {
        int buyers = s.shoppers.size();
        int lots = s.lots.size();
        int nodes = buyers + lots + 2;
        int source = buyers + lots;
        int sink = source + 1;
        int[][] room = new int[nodes][nodes];
        int[][] cost = new int[nodes][nodes];
        for (int b = 0; b < buyers; b++) {
            room[source][b] = weights[b] < 0 ? 0 : 1;
            cost[source][b] = -weights[b];
            cost[b][source] = weights[b];
            for (int l = 0; l < lots; l++) {
                room[b][buyers + l] = fit(s.shoppers.get(b), s.lots.get(l)) ? 1 : 0;
            }
        }
        for (int l = 0; l < lots; l++) {
            room[buyers + l][sink] = s.lots.get(l).units.size();
        }
        int total = 0;
        while (true) {
            int[] far = new int[nodes];
            int[] from = new int[nodes];
            Arrays.fill(far, Integer.MAX_VALUE);
            far[source] = 0;
            boolean moved = true;
            while (moved) {
                moved = false;
                for (int x = 0; x < nodes; x++) {
                    for (int y = 0; far[x] != Integer.MAX_VALUE && y < nodes; y++) {
                        if (room[x][y] > 0 && far[x] + cost[x][y] < far[y]) {
                            far[y] = far[x] + cost[x][y];
                            from[y] = x;
                            moved = true;
                        }
                    }
                }
            }
            if (far[sink] == Integer.MAX_VALUE || far[sink] >= 0) {
                return total;
            }
            total -= far[sink];
            for (int y = sink; y != source; y = from[y]) {
                room[from[y]][y]--;
                room[y][from[y]]++;
            }
        }
    }

    public int hindsight() {
        return assign(s.shoppers.stream().mapToInt(b -> b.value).toArray());
    }

    public int mostServed() {
        return assign(s.shoppers.stream().mapToInt(b -> 1).toArray());
    }

    public double efficiency() {
        int optimum = hindsight();
        return optimum == 0 ? 1 : (double) welfare() / optimum;
    }

    private int fixed(int product, int price) {
        return price * assign(s.shoppers.stream()
                .mapToInt(b -> b.product == product && b.value >= price ? 1 : -1).toArray());
    }

    private int bestFixed(int product) {
        int best = -1;
        for (Shopper b : s.shoppers) {
            if (b.product == product && b.state > 0 && b.value > 0) {
                int gain = best < 0 ? -1 : fixed(product, best);
                int other = fixed(product, b.value);
                best = other > gain || other == gain && b.value < best ? b.value : best;
            }
        }
        return best;
    }

    public int bestFixedPrice(int product) {
        good(product);
        return bestFixed(product);
    }

    public int fixedResult(int product, int price) {
        good(product);
        need(price, 1, 9999);
        return fixed(product, price);
    }

    public int regret() {
        int sum = -income();
        for (int i = 0; i < s.goods.size(); i++) {
            sum += bestFixed(i) < 0 ? 0 : fixed(i, bestFixed(i));
        }
        return sum;
    }

    public int bestPercent(int product, int days) {
        good(product);
        need(days, 1, 12);
        int best = 0;
        int most = -1;
        for (int p = 50; p <= 150; p += 10) {
            State c = s.copy();
            Good g = c.goods.get(product);
            g.base = Math.min(9999, Math.max(1, g.base * p / 100));
            for (int i = 0; i < days; i++) {
                pass(c);
            }
            if (incomeOf(c) > most) {
                most = incomeOf(c);
                best = p;
            }
        }
        return best;
    }

    public int daysToSellOut(int product, int limit) {
        good(product);
        need(limit, 1, 60);
        State c = s.copy();
        int days = 0;
        while (!stocked(c, product).isEmpty()) {
            if (days == limit) {
                return -1;
            }
            pass(c);
            days++;
        }
        return days;
    }

    public float meanSoldAge(int product) {
        good(product);
        int[] ages = s.lots.stream().filter(l -> l.product == product).flatMap(l -> l.units.stream())
                .filter(u -> u.fate == 3).mapToInt(u -> u.soldAge).toArray();
        return ages.length == 0 ? 0 : (float) Arrays.stream(ages).sum() / (float) ages.length;
    }

    public float wasteShare(int product) {
        int delivered = figure(product, 0);
        return delivered == 0 ? 0 : (float) figure(product, 4) / (float) delivered;
    }

    public int demand(int product, int value) {
        good(product);
        return (int) s.shoppers.stream().filter(b -> b.state == 1 && b.product == product && b.value >= value).count();
    }

    public int expiring(int product) {
        Good g = good(product);
        return stocked(s, product).stream().filter(l -> s.day + 1 - l.day >= g.life)
                .mapToInt(l -> count(l, 1) + count(l, 2)).sum();
    }

    public int events() {
        return s.events.size();
    }

    public int event(int index, int what) {
        if (index < 0 || index >= s.events.size()) {
            throw new NoSuchElementException();
        }
        need(what, 0, 3);
        return s.events.get(index)[what];
    }

    public int printReport() {
        output = "";
        for (int i = 0; i < s.goods.size(); i++) {
            output += s.goods.get(i).name + ":" + figure(i, 1) + "/" + figure(i, 0) + " " + figure(i, 5) + ";";
        }
        return output.length();
    }

    public int outputByte(int index) {
        return index < 0 || index >= output.length() ? -1 : output.charAt(index);
    }

    public int saveState() {
        kept = s.copy();
        return s.day;
    }

    public int restoreState() {
        if (kept == null) {
            throw new IllegalStateException();
        }
        s = kept.copy();
        return s.day;
    }
}
