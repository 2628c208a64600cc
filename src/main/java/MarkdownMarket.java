import java.util.NoSuchElementException;

/** A market with posted prices; README.md tells how it is used. */
public final class MarkdownMarket {
    public static final int NO_ERROR = 0;
    public static final int SYNTAX = 1;
    public static final int OUT_OF_RANGE = 2;
    public static final int BAD_NAME = 3;
    public static final int MISPLACED = 4;

    private static final int NONE = -1;

    private static final int INPUT_LIMIT = 1200;
    private static final int INPUT_PIECE = 20;
    private static final int PRODUCT_LIMIT = 6;
    private static final int BATCH_LIMIT = 24;
    private static final int BUYER_LIMIT = 40;
    private static final int STEP_LIMIT = 5;
    private static final int EVENT_LIMIT = 20;
    private static final int NAME_LIMIT = 8;
    private static final int DIGIT_LIMIT = 4;

    private static final int USUAL_FEE = 10;
    private static final int MOST_PERCENT = 100;
    private static final int MOST_PRICE = 9999;
    private static final int MOST_LIFE = 60;
    private static final int MOST_AGE = 59;
    private static final int MOST_UNITS = 50;
    private static final int MOST_LOADED_DAY = 999;
    private static final int MOST_PATIENCE = 30;
    private static final int MOST_COST = 99;
    private static final int MOST_HOLD_DAYS = 9;
    private static final int MOST_RUN_DAYS = 60;
    private static final int MOST_TRIAL_DAYS = 12;

    private static final int FIRST_TRIAL_PERCENT = 50;
    private static final int LAST_TRIAL_PERCENT = 150;
    private static final int TRIAL_PERCENT_STEP = 10;

    private static final int NOT_ARRIVED = 0;
    private static final int WAITING = 1;
    private static final int HOLDING = 2;
    private static final int BOUGHT = 3;
    private static final int LEFT = 4;

    private static final int DELIVERY = 0;
    private static final int FREE_UNIT_BOUGHT = 1;
    private static final int HOLD_BEGUN = 2;
    private static final int HELD_UNIT_BOUGHT = 3;
    private static final int HOLD_CANCELLED = 4;
    private static final int UNITS_DISCARDED = 5;
    private static final int BUYER_LEFT = 6;

    private final byte[] input = new byte[INPUT_LIMIT];
    private int inputLength;
    private final StringBuilder output = new StringBuilder();

    private final Market live = new Market();
    private final Market saved = new Market();
    private boolean hasSaved;
    /** Text is read into this market, and the future is tried out in it: no call needs both. */
    private final Market draft = new Market();

    private final Reader reader = new Reader(input, draft);
    private final Assignment assignment = new Assignment(live);

    public MarkdownMarket() {
    }

    public int appendInput(int a, int b, int c, int d, int e) {
        if (inputLength + INPUT_PIECE > INPUT_LIMIT) {
            return -1;
        }
        appendBytes(a);
        appendBytes(b);
        appendBytes(c);
        appendBytes(d);
        appendBytes(e);
        return inputLength;
    }

    private void appendBytes(int four) {
        for (int shift = 24; shift >= 0; shift -= 8) {
            if (inputLength >= 0 && inputLength < input.length) {
                input[inputLength] = (byte) (four >> shift);
                inputLength++;
            }
        }
    }

    public boolean truncateInput(int length) {
        if (length < 0 || length > inputLength) {
            return false;
        }
        inputLength = length;
        return true;
    }

    public int loadMarket() {
        reader.read(inputLength);
        inputLength = 0;
        if (reader.code != NO_ERROR) {
            return -1;
        }
        live.copyFrom(draft);
        hasSaved = false;
        return live.productCount;
    }

    public int errorCode() {
        return reader.code;
    }

    public int errorOffset() {
        return reader.offset;
    }

    public int products() {
        return live.productCount;
    }

    public int day() {
        return live.today;
    }

    public int run(int days) throws IllegalArgumentException {
        checkRange(days, 1, MOST_RUN_DAYS);
        int before = live.unitsBought();
        for (int i = 0; i < days; i++) {
            live.passDay();
        }
        return live.unitsBought() - before;
    }

    public int percentAt(int product, int age) throws IndexOutOfBoundsException, IllegalArgumentException {
        checkProduct(product);
        checkRange(age, 0, MOST_AGE);
        return live.productAt(product).percent(age);
    }

    public int priceAt(int product, int age) throws IndexOutOfBoundsException, IllegalArgumentException {
        checkProduct(product);
        checkRange(age, 0, MOST_AGE);
        return live.productAt(product).price(age);
    }

    public int figure(int product, int what) throws IndexOutOfBoundsException, IllegalArgumentException {
        checkProduct(product);
        Product row = live.productAt(product);
        switch (what) {
            case 0:
                return live.unitsDelivered(product);
            case 1:
                return row.bought;
            case 2:
                return live.unitsFree(product);
            case 3:
                return live.unitsHeld(product);
            case 4:
                return row.discarded;
            case 5:
                return row.revenue;
            case 6:
                return row.forfeited;
            case 7:
                return row.base;
            case 8:
                return row.life;
            case 9:
                return live.buyersArrived(product);
            case 10:
                return live.buyersGone(product);
            default:
                throw new IllegalArgumentException("no such figure");
        }
    }

    public int batches(int product) throws IndexOutOfBoundsException {
        checkProduct(product);
        return live.stockedBatches(product);
    }

    public int batch(int product, int index, int what)
            throws IndexOutOfBoundsException, NoSuchElementException, IllegalArgumentException {
        checkProduct(product);
        int number = live.stockedBatch(product, index);
        if (number == NONE) {
            throw new NoSuchElementException("no such batch");
        }
        Batch row = live.batchAt(number);
        switch (what) {
            case 0:
                return number;
            case 1:
                return row.deliveryDay;
            case 2:
                return row.free;
            case 3:
                return row.held;
            case 4:
                return live.presentPrice(row);
            case 5:
                return live.presentAge(row);
            default:
                throw new IllegalArgumentException("no such property");
        }
    }

    public int buyers() {
        return live.buyerCount;
    }

    public int buyerState(int buyer) throws IndexOutOfBoundsException {
        checkBuyer(buyer);
        return live.buyerAt(buyer).state;
    }

    public int buyer(int buyer, int what) throws IndexOutOfBoundsException, IllegalArgumentException {
        checkBuyer(buyer);
        Buyer row = live.buyerAt(buyer);
        switch (what) {
            case 0:
                return row.product;
            case 1:
                return row.value;
            case 2:
                return row.arrivalDay;
            case 3:
                return row.leavingDay;
            case 4:
                return row.paid;
            case 5:
                return row.lastDay;
            case 6:
                return row.batch;
            default:
                throw new IllegalArgumentException("no such property");
        }
    }

    public int waiting() {
        return live.waitingLine.size;
    }

    public int waitingBuyer(int index) throws NoSuchElementException {
        int number = live.waitingLine.numberAt(index);
        if (number == NONE) {
            throw new NoSuchElementException("no such waiting buyer");
        }
        return number;
    }

    public int bestBatch(int buyer) throws IndexOutOfBoundsException {
        checkBuyer(buyer);
        return live.bestBatchFor(live.buyerAt(buyer));
    }

    public int bestSurplus(int buyer) throws IndexOutOfBoundsException {
        checkBuyer(buyer);
        Buyer row = live.buyerAt(buyer);
        int best = live.bestBatchFor(row);
        return best == NONE ? -1 : live.presentSurplus(row, live.batchAt(best));
    }

    public int waitsFor(int buyer) throws IndexOutOfBoundsException {
        checkBuyer(buyer);
        Buyer row = live.buyerAt(buyer);
        int best = live.bestBatchFor(row);
        return best == NONE ? -1 : live.preferredDay(row, live.batchAt(best));
    }

    public int holds() {
        return live.holdLine.size;
    }

    public int hold(int index, int what) throws NoSuchElementException, IllegalArgumentException {
        int number = live.holdLine.numberAt(index);
        if (number == NONE) {
            throw new NoSuchElementException("no such hold");
        }
        Buyer row = live.buyerAt(number);
        switch (what) {
            case 0:
                return number;
            case 1:
                return row.batch;
            case 2:
                return row.holdPrice;
            case 3:
                return row.deposit;
            case 4:
                return row.holdEnd;
            default:
                throw new IllegalArgumentException("no such property");
        }
    }

    public int addBuyer(int product, int value, int patience, int strategic, int stale, int hold)
            throws IndexOutOfBoundsException, IllegalArgumentException, IllegalStateException {
        checkProduct(product);
        checkRange(value, 0, MOST_PRICE);
        checkRange(patience, 0, MOST_PATIENCE);
        checkRange(strategic, NONE, MOST_COST);
        checkRange(stale, 0, MOST_COST);
        checkRange(hold, 0, MOST_HOLD_DAYS);
        if (live.buyerCount >= BUYER_LIMIT) {
            throw new IllegalStateException("no more buyers");
        }
        return live.enrolBuyer(product, live.today + 1, value, patience, strategic, stale, hold);
    }

    public int addBatch(int product, int units)
            throws IndexOutOfBoundsException, IllegalArgumentException, IllegalStateException {
        checkProduct(product);
        checkRange(units, 1, MOST_UNITS);
        if (live.batchCount >= BATCH_LIMIT) {
            throw new IllegalStateException("no more batches");
        }
        return live.enrolBatch(product, live.today + 1, units);
    }

    public int setBase(int product, int base) throws IndexOutOfBoundsException, IllegalArgumentException {
        checkProduct(product);
        checkRange(base, 1, MOST_PRICE);
        Product row = live.productAt(product);
        int previous = row.base;
        row.base = base;
        return previous;
    }

    public int setFee(int fee) throws IllegalArgumentException {
        checkRange(fee, 0, MOST_PERCENT);
        int previous = live.fee;
        live.fee = fee;
        return previous;
    }

    public int markDown(int product, int age, int percent)
            throws IndexOutOfBoundsException, IllegalArgumentException, IllegalStateException {
        checkProduct(product);
        checkRange(age, 1, MOST_AGE);
        checkRange(percent, 0, MOST_PERCENT);
        Product row = live.productAt(product);
        if (row.steps >= STEP_LIMIT && row.stepOf(age) == NONE) {
            throw new IllegalStateException("no more steps");
        }
        row.putStep(age, percent);
        return row.steps;
    }

    public boolean removeStep(int product, int age) throws IndexOutOfBoundsException {
        checkProduct(product);
        return live.productAt(product).dropStep(age);
    }

    public int sell(int buyer, int batch, int price)
            throws IndexOutOfBoundsException, IllegalArgumentException, IllegalStateException {
        checkBuyer(buyer);
        checkBatch(batch);
        checkRange(price, 0, MOST_PRICE);
        Buyer customer = live.buyerAt(buyer);
        Batch source = live.batchAt(batch);
        int surplus = customer.surplus(price, live.presentAge(source));
        if (customer.state != WAITING || !source.offersTo(customer) || surplus < 0) {
            throw new IllegalStateException("no such sale");
        }
        live.sellFreeUnit(customer, source, price);
        live.tidyLines();
        return surplus;
    }

    public int release(int buyer) throws IndexOutOfBoundsException, IllegalStateException {
        checkBuyer(buyer);
        Buyer holder = live.buyerAt(buyer);
        if (holder.state != HOLDING) {
            throw new IllegalStateException("no hold");
        }
        live.freeHeldUnit(holder);
        live.refund(holder);
        live.tidyLines();
        return holder.deposit;
    }

    public int discard(int batch) throws IndexOutOfBoundsException {
        checkBatch(batch);
        return live.discardFreeUnits(live.batchAt(batch));
    }

    public int income() {
        return live.totalIncome();
    }

    public int welfare() {
        return live.totalWelfare();
    }

    public int hindsight() {
        assignment.fill();
        return assignment.sumOfValues();
    }

    public int mostServed() {
        assignment.fill();
        return assignment.buyersServed();
    }

    public double efficiency() {
        int optimum = hindsight();
        return optimum == 0 ? 1.0 : (double) live.totalWelfare() / (double) optimum;
    }

    public int bestFixedPrice(int product) throws IndexOutOfBoundsException {
        checkProduct(product);
        assignment.fill();
        return assignment.bestPrice(product);
    }

    public int fixedResult(int product, int price) throws IndexOutOfBoundsException, IllegalArgumentException {
        checkProduct(product);
        checkRange(price, 1, MOST_PRICE);
        assignment.fill();
        return assignment.resultFor(product, price);
    }

    public int regret() {
        assignment.fill();
        int sum = 0;
        for (int i = 0; i < live.productCount; i++) {
            int price = assignment.bestPrice(i);
            sum += price == NONE ? 0 : assignment.resultFor(i, price);
        }
        return sum - live.totalIncome();
    }

    public int bestPercent(int product, int days) throws IndexOutOfBoundsException, IllegalArgumentException {
        checkProduct(product);
        checkRange(days, 1, MOST_TRIAL_DAYS);
        int best = FIRST_TRIAL_PERCENT;
        int bestIncome = NONE;
        for (int percent = FIRST_TRIAL_PERCENT; percent <= LAST_TRIAL_PERCENT; percent += TRIAL_PERCENT_STEP) {
            draft.copyFrom(live);
            draft.productAt(product).scaleBase(percent);
            for (int i = 0; i < days; i++) {
                draft.passDay();
            }
            int reached = draft.totalIncome();
            if (reached > bestIncome) {
                bestIncome = reached;
                best = percent;
            }
        }
        return best;
    }

    public int daysToSellOut(int product, int limit) throws IndexOutOfBoundsException, IllegalArgumentException {
        checkProduct(product);
        checkRange(limit, 1, MOST_RUN_DAYS);
        draft.copyFrom(live);
        for (int passed = 0; passed < limit; passed++) {
            if (draft.stockedBatches(product) == 0) {
                return passed;
            }
            draft.passDay();
        }
        return draft.stockedBatches(product) == 0 ? limit : -1;
    }

    public float meanSoldAge(int product) throws IndexOutOfBoundsException {
        checkProduct(product);
        Product row = live.productAt(product);
        return row.bought == 0 ? 0.0f : (float) row.soldAges / (float) row.bought;
    }

    public float wasteShare(int product) throws IndexOutOfBoundsException {
        checkProduct(product);
        int delivered = live.unitsDelivered(product);
        return delivered == 0 ? 0.0f : (float) live.productAt(product).discarded / (float) delivered;
    }

    public int demand(int product, int value) throws IndexOutOfBoundsException {
        checkProduct(product);
        return live.waitingWithValue(product, value);
    }

    public int expiring(int product) throws IndexOutOfBoundsException {
        checkProduct(product);
        return live.unitsExpiring(product);
    }

    public int events() {
        return live.log.size;
    }

    public int event(int index, int what) throws NoSuchElementException, IllegalArgumentException {
        if (index < 0 || index >= live.log.size) {
            throw new NoSuchElementException("no such event");
        }
        checkRange(what, 0, EventLog.WIDTH - 1);
        return live.log.property(index, what);
    }

    public int printReport() {
        output.setLength(0);
        for (int i = 0; i < live.productCount; i++) {
            Product row = live.productAt(i);
            output.append(row.name);
            output.append(':');
            output.append(row.bought);
            output.append('/');
            output.append(live.unitsDelivered(i));
            output.append(' ');
            output.append(row.revenue);
            output.append(';');
        }
        return output.length();
    }

    public int outputByte(int index) {
        if (index < 0 || index >= output.length()) {
            return -1;
        }
        return output.charAt(index);
    }

    public int saveState() {
        saved.copyFrom(live);
        hasSaved = true;
        return live.today;
    }

    public int restoreState() throws IllegalStateException {
        if (!hasSaved) {
            throw new IllegalStateException("no state is saved");
        }
        live.copyFrom(saved);
        return live.today;
    }

    private void checkProduct(int number) {
        checkIndex(number, live.productCount);
    }

    private void checkBatch(int number) {
        checkIndex(number, live.batchCount);
    }

    private void checkBuyer(int number) {
        checkIndex(number, live.buyerCount);
    }

    private static void checkIndex(int index, int count) {
        if (index < 0 || index >= count) {
            throw new IndexOutOfBoundsException("no such number");
        }
    }

    private static void checkRange(int number, int least, int most) {
        if (number < least || number > most) {
            throw new IllegalArgumentException("out of range");
        }
    }

    /** Every access by a number goes through here, so that no number can make the machine throw. */
    private static int inside(int index, int length) {
        return index >= 0 && index < length ? index : 0;
    }

    private static final class Product {
        private String name = "";
        private int base;
        private int life;
        /** The steps stand in no order: with so few of them a search is as good as a sort. */
        private final int[] stepAges = new int[STEP_LIMIT];
        private final int[] stepPercents = new int[STEP_LIMIT];
        private int steps;
        private int bought;
        private int soldAges;
        private int discarded;
        private int revenue;
        private int forfeited;

        void begin(String newName, int newBase, int newLife) {
            name = newName;
            base = newBase;
            life = newLife;
            steps = 0;
            bought = 0;
            soldAges = 0;
            discarded = 0;
            revenue = 0;
            forfeited = 0;
        }

        void copyFrom(Product other) {
            begin(other.name, other.base, other.life);
            System.arraycopy(other.stepAges, 0, stepAges, 0, STEP_LIMIT);
            System.arraycopy(other.stepPercents, 0, stepPercents, 0, STEP_LIMIT);
            steps = other.steps;
            bought = other.bought;
            soldAges = other.soldAges;
            discarded = other.discarded;
            revenue = other.revenue;
            forfeited = other.forfeited;
        }

        int percent(int age) {
            int percent = MOST_PERCENT;
            int reached = 0;
            for (int i = 0; i < steps && i < STEP_LIMIT; i++) {
                if (stepAges[i] <= age && stepAges[i] > reached) {
                    reached = stepAges[i];
                    percent = stepPercents[i];
                }
            }
            return percent;
        }

        int price(int age) {
            return base * percent(age) / 100;
        }

        void scaleBase(int percent) {
            base = Math.max(1, Math.min(MOST_PRICE, base * percent / 100));
        }

        int stepOf(int age) {
            for (int i = 0; i < steps && i < STEP_LIMIT; i++) {
                if (stepAges[i] == age) {
                    return i;
                }
            }
            return NONE;
        }

        void putStep(int age, int percent) {
            int known = stepOf(age);
            int place = known == NONE ? steps : known;
            if (place >= 0 && place < STEP_LIMIT) {
                stepAges[place] = age;
                stepPercents[place] = percent;
                steps = Math.max(steps, place + 1);
            }
        }

        boolean dropStep(int age) {
            int place = stepOf(age);
            int last = steps - 1;
            if (place < 0 || last < place || last >= STEP_LIMIT) {
                return false;
            }
            stepAges[place] = stepAges[last];
            stepPercents[place] = stepPercents[last];
            steps = last;
            return true;
        }
    }

    private static final class Batch {
        private final int number;
        private int product;
        private int deliveryDay;
        private int units;
        private int free;
        private int held;

        Batch(int number) {
            this.number = number;
        }

        void begin(int wantedProduct, int onDay, int size) {
            product = wantedProduct;
            deliveryDay = onDay;
            units = size;
            free = 0;
            held = 0;
        }

        void copyFrom(Batch other) {
            begin(other.product, other.deliveryDay, other.units);
            free = other.free;
            held = other.held;
        }

        boolean offersTo(Buyer buyer) {
            return free > 0 && product == buyer.product;
        }
    }

    private static final class Buyer {
        private final int number;
        private int product;
        private int value;
        private int arrivalDay;
        private int leavingDay;
        private int waitingCost;
        private int stalePenalty;
        private int holdDays;
        private int state;
        private int paid;
        private int lastDay;
        private int batch;
        private int holdPrice;
        private int deposit;
        private int holdEnd;

        Buyer(int number) {
            this.number = number;
        }

        void begin(int wanted, int onDay, int worth, int patience, int strategic, int stale, int hold) {
            product = wanted;
            value = worth;
            arrivalDay = onDay;
            leavingDay = onDay + patience;
            waitingCost = strategic;
            stalePenalty = stale;
            holdDays = hold;
            state = NOT_ARRIVED;
            paid = 0;
            lastDay = NONE;
            batch = NONE;
            holdPrice = 0;
            deposit = 0;
            holdEnd = NONE;
        }

        void copyFrom(Buyer other) {
            product = other.product;
            value = other.value;
            arrivalDay = other.arrivalDay;
            leavingDay = other.leavingDay;
            waitingCost = other.waitingCost;
            stalePenalty = other.stalePenalty;
            holdDays = other.holdDays;
            state = other.state;
            paid = other.paid;
            lastDay = other.lastDay;
            batch = other.batch;
            holdPrice = other.holdPrice;
            deposit = other.deposit;
            holdEnd = other.holdEnd;
        }

        boolean isStrategic() {
            return waitingCost != NONE;
        }

        int surplus(int price, int age) {
            return value - price - stalePenalty * age;
        }
    }

    /** Numbers of buyers, each at most once, in the order in which they came. */
    private static final class Line {
        private final int[] numbers = new int[BUYER_LIMIT];
        private int size;

        void add(int number) {
            if (size >= 0 && size < numbers.length) {
                numbers[size] = number;
                size++;
            }
        }

        int numberAt(int index) {
            return index >= 0 && index < size && index < numbers.length ? numbers[index] : NONE;
        }

        void copyFrom(Line other) {
            System.arraycopy(other.numbers, 0, numbers, 0, BUYER_LIMIT);
            size = other.size;
        }
    }

    private static final class EventLog {
        private static final int WIDTH = 4;
        private final int[] cells = new int[EVENT_LIMIT * WIDTH];
        private int size;

        void add(int onDay, int kind, int number, int amount) {
            if (size >= EVENT_LIMIT) {
                size = EVENT_LIMIT - 1;
                System.arraycopy(cells, WIDTH, cells, 0, size * WIDTH);
            }
            int start = size * WIDTH;
            if (start >= 0 && start + 3 < cells.length) {
                cells[start] = onDay;
                cells[start + 1] = kind;
                cells[start + 2] = number;
                cells[start + 3] = amount;
                size++;
            }
        }

        int property(int index, int what) {
            return cells[inside(index * WIDTH + what, cells.length)];
        }

        void copyFrom(EventLog other) {
            System.arraycopy(other.cells, 0, cells, 0, EVENT_LIMIT * WIDTH);
            size = other.size;
        }
    }

    /** All that a saved state keeps; its rows are made once and used again, as room is short. */
    private static final class Market {
        private int fee = USUAL_FEE;
        private int today = NONE;
        private final Product[] productRows = new Product[PRODUCT_LIMIT];
        private int productCount;
        private final Batch[] batchRows = new Batch[BATCH_LIMIT];
        private int batchCount;
        private final Buyer[] buyerRows = new Buyer[BUYER_LIMIT];
        private int buyerCount;
        private final Line waitingLine = new Line();
        private final Line holdLine = new Line();
        private final EventLog log = new EventLog();

        Market() {
            for (int i = 0; i < productRows.length; i++) {
                productRows[i] = new Product();
            }
            for (int i = 0; i < batchRows.length; i++) {
                batchRows[i] = new Batch(i);
            }
            for (int i = 0; i < buyerRows.length; i++) {
                buyerRows[i] = new Buyer(i);
            }
        }

        void clear() {
            fee = USUAL_FEE;
            today = NONE;
            productCount = 0;
            batchCount = 0;
            buyerCount = 0;
            waitingLine.size = 0;
            holdLine.size = 0;
            log.size = 0;
        }

        void copyFrom(Market other) {
            fee = other.fee;
            today = other.today;
            productCount = other.productCount;
            for (int i = 0; i < productCount; i++) {
                productAt(i).copyFrom(other.productAt(i));
            }
            batchCount = other.batchCount;
            for (int i = 0; i < batchCount; i++) {
                batchAt(i).copyFrom(other.batchAt(i));
            }
            buyerCount = other.buyerCount;
            for (int i = 0; i < buyerCount; i++) {
                buyerAt(i).copyFrom(other.buyerAt(i));
            }
            waitingLine.copyFrom(other.waitingLine);
            holdLine.copyFrom(other.holdLine);
            log.copyFrom(other.log);
        }

        Product productAt(int number) {
            return productRows[inside(number, productRows.length)];
        }

        Batch batchAt(int number) {
            return batchRows[inside(number, batchRows.length)];
        }

        Buyer buyerAt(int number) {
            return buyerRows[inside(number, buyerRows.length)];
        }

        int productNamed(String name) {
            for (int i = 0; i < productCount; i++) {
                if (productAt(i).name.equals(name)) {
                    return i;
                }
            }
            return NONE;
        }

        Product enrolProduct(String name, int base, int life) {
            Product row = productAt(productCount);
            row.begin(name, base, life);
            productCount = Math.min(PRODUCT_LIMIT, productCount + 1);
            return row;
        }

        int enrolBatch(int product, int onDay, int units) {
            int number = batchCount;
            batchAt(number).begin(product, onDay, units);
            batchCount = Math.min(BATCH_LIMIT, batchCount + 1);
            return number;
        }

        int enrolBuyer(int product, int onDay, int value, int patience, int strategic, int stale, int hold) {
            int number = buyerCount;
            buyerAt(number).begin(product, onDay, value, patience, strategic, stale, hold);
            buyerCount = Math.min(BUYER_LIMIT, buyerCount + 1);
            return number;
        }

        void passDay() {
            today++;
            discardExpired();
            deliverBatches();
            endHolds();
            welcomeBuyers();
            askBuyers();
            dismissBuyers();
        }

        private void discardExpired() {
            for (int i = 0; i < batchCount; i++) {
                Batch row = batchAt(i);
                if (presentAge(row) >= productAt(row.product).life) {
                    discardAllUnits(row);
                }
            }
            tidyLines();
        }

        private void discardAllUnits(Batch row) {
            int units = row.free + row.held;
            row.free = 0;
            row.held = 0;
            noteDiscarded(row, units);
            for (int i = 0; i < holdLine.size; i++) {
                Buyer holder = buyerAt(holdLine.numberAt(i));
                if (holder.state == HOLDING && holder.batch == row.number) {
                    refund(holder);
                }
            }
        }

        int discardFreeUnits(Batch row) {
            int units = row.free;
            row.free = 0;
            noteDiscarded(row, units);
            return units;
        }

        private void noteDiscarded(Batch row, int units) {
            if (units > 0) {
                productAt(row.product).discarded += units;
                log.add(today, UNITS_DISCARDED, row.number, units);
            }
        }

        private void deliverBatches() {
            for (int i = 0; i < batchCount; i++) {
                Batch row = batchAt(i);
                if (row.deliveryDay == today) {
                    row.free = row.units;
                    log.add(today, DELIVERY, i, row.units);
                }
            }
        }

        private void endHolds() {
            for (int i = 0; i < holdLine.size; i++) {
                Buyer holder = buyerAt(holdLine.numberAt(i));
                if (holder.holdEnd == today) {
                    endHold(holder);
                }
            }
            tidyLines();
        }

        private void endHold(Buyer holder) {
            Batch source = batchAt(holder.batch);
            int gain = holder.surplus(holder.holdPrice - holder.deposit, presentAge(source));
            int best = bestBatchFor(holder);
            boolean keeps = gain >= 0 && (best == NONE || gain >= presentSurplus(holder, batchAt(best)));
            if (keeps) {
                sellHeldUnit(holder, source);
                return;
            }
            productAt(holder.product).forfeited += holder.deposit;
            log.add(today, HOLD_CANCELLED, holder.number, holder.deposit);
            freeHeldUnit(holder);
            if (best == NONE) {
                leave(holder);
            } else {
                sellFreeUnit(holder, batchAt(best), presentPrice(batchAt(best)));
            }
        }

        private void welcomeBuyers() {
            for (int i = 0; i < buyerCount; i++) {
                Buyer row = buyerAt(i);
                if (row.arrivalDay == today) {
                    row.state = WAITING;
                    waitingLine.add(i);
                }
            }
        }

        private void askBuyers() {
            for (int i = 0; i < waitingLine.size; i++) {
                ask(buyerAt(waitingLine.numberAt(i)));
            }
            tidyLines();
        }

        private void ask(Buyer asked) {
            int best = bestBatchFor(asked);
            if (best == NONE) {
                return;
            }
            Batch source = batchAt(best);
            if (preferredDay(asked, source) != NONE) {
                return;
            }
            if (asked.holdDays > 0) {
                beginHold(asked, source);
            } else {
                sellFreeUnit(asked, source, presentPrice(source));
            }
        }

        private void dismissBuyers() {
            for (int i = 0; i < waitingLine.size; i++) {
                Buyer row = buyerAt(waitingLine.numberAt(i));
                if (row.leavingDay <= today) {
                    leave(row);
                }
            }
            tidyLines();
        }

        private void beginHold(Buyer holder, Batch source) {
            int price = presentPrice(source);
            source.free--;
            source.held++;
            holder.state = HOLDING;
            holder.batch = source.number;
            holder.holdPrice = price;
            holder.deposit = price * fee / 100;
            holder.holdEnd = today + holder.holdDays;
            holder.paid += holder.deposit;
            holdLine.add(holder.number);
            log.add(today, HOLD_BEGUN, holder.number, price);
        }

        private void sellHeldUnit(Buyer holder, Batch source) {
            source.held--;
            holder.paid += holder.holdPrice - holder.deposit;
            notePurchase(holder, source, holder.holdPrice);
            log.add(today, HELD_UNIT_BOUGHT, holder.number, holder.holdPrice);
        }

        void sellFreeUnit(Buyer customer, Batch source, int price) {
            source.free--;
            customer.paid += price;
            notePurchase(customer, source, price);
            log.add(today, FREE_UNIT_BOUGHT, customer.number, price);
        }

        private void notePurchase(Buyer customer, Batch source, int price) {
            customer.state = BOUGHT;
            customer.lastDay = today;
            customer.batch = source.number;
            Product sold = productAt(source.product);
            sold.bought++;
            sold.soldAges += presentAge(source);
            sold.revenue += price;
        }

        void freeHeldUnit(Buyer holder) {
            Batch source = batchAt(holder.batch);
            source.held--;
            source.free++;
        }

        void refund(Buyer holder) {
            holder.paid -= holder.deposit;
            leave(holder);
        }

        private void leave(Buyer row) {
            row.state = LEFT;
            row.lastDay = today;
            row.batch = NONE;
            log.add(today, BUYER_LEFT, row.number, row.value);
        }

        /** Done after a walk along a line and not during it, so that the walk meets every buyer once. */
        void tidyLines() {
            keepOnly(waitingLine, WAITING);
            keepOnly(holdLine, HOLDING);
        }

        private void keepOnly(Line line, int state) {
            int size = line.size;
            line.size = 0;
            for (int i = 0; i < size && i < BUYER_LIMIT; i++) {
                int number = line.numbers[i];
                if (buyerAt(number).state == state) {
                    line.add(number);
                }
            }
        }

        int presentAge(Batch row) {
            return today - row.deliveryDay;
        }

        int presentPrice(Batch row) {
            return productAt(row.product).price(presentAge(row));
        }

        int presentSurplus(Buyer customer, Batch row) {
            int age = presentAge(row);
            return customer.surplus(productAt(row.product).price(age), age);
        }

        int bestBatchFor(Buyer customer) {
            Product wanted = productAt(customer.product);
            int best = NONE;
            int bestSurplus = 0;
            int bestPrice = 0;
            for (int i = 0; i < batchCount; i++) {
                Batch row = batchAt(i);
                if (!row.offersTo(customer)) {
                    continue;
                }
                int price = wanted.price(presentAge(row));
                int surplus = customer.surplus(price, presentAge(row));
                boolean ties = surplus == bestSurplus && price == bestPrice;
                boolean better = best == NONE || surplus > bestSurplus
                        || surplus == bestSurplus && price < bestPrice
                        || ties && row.deliveryDay < batchAt(best).deliveryDay;
                if (surplus >= 0 && better) {
                    best = i;
                    bestSurplus = surplus;
                    bestPrice = price;
                }
            }
            return best;
        }

        /** The day for which a buyer would rather wait than take a unit of the best batch. */
        int preferredDay(Buyer customer, Batch best) {
            int preferred = NONE;
            if (!customer.isStrategic()) {
                return preferred;
            }
            int most = presentSurplus(customer, best);
            // The leaving day of a buyer still to come may be far off, but no unit keeps so long.
            int last = Math.min(customer.leavingDay, today + MOST_LIFE);
            for (int later = today + 1; later <= last; later++) {
                int expected = expectation(customer, later);
                if (expected > most) {
                    most = expected;
                    preferred = later;
                }
            }
            return preferred;
        }

        /** Less than 0 also stands for no unit at all: a present surplus is at least 0 and so beats both. */
        private int expectation(Buyer customer, int later) {
            Product wanted = productAt(customer.product);
            int greatest = -1;
            for (int i = 0; i < batchCount; i++) {
                Batch row = batchAt(i);
                int age = later - row.deliveryDay;
                if (row.offersTo(customer) && age < wanted.life) {
                    greatest = Math.max(greatest, customer.surplus(wanted.price(age), age));
                }
            }
            return greatest - customer.waitingCost * (later - today);
        }

        boolean fits(Buyer customer, Batch row) {
            int lastDay = row.deliveryDay + productAt(row.product).life - 1;
            return row.product == customer.product && row.deliveryDay <= today
                    && row.deliveryDay <= customer.leavingDay && customer.arrivalDay <= lastDay;
        }

        int unitsDelivered(int product) {
            int units = 0;
            for (int i = 0; i < batchCount; i++) {
                Batch row = batchAt(i);
                units += row.product == product && row.deliveryDay <= today ? row.units : 0;
            }
            return units;
        }

        int unitsFree(int product) {
            int units = 0;
            for (int i = 0; i < batchCount; i++) {
                Batch row = batchAt(i);
                units += row.product == product ? row.free : 0;
            }
            return units;
        }

        int unitsHeld(int product) {
            int units = 0;
            for (int i = 0; i < batchCount; i++) {
                Batch row = batchAt(i);
                units += row.product == product ? row.held : 0;
            }
            return units;
        }

        /** No hold can end before such a unit is discarded: a day discards first. */
        int unitsExpiring(int product) {
            int units = 0;
            for (int i = 0; i < batchCount; i++) {
                Batch row = batchAt(i);
                if (row.product == product && presentAge(row) + 1 >= productAt(product).life) {
                    units += row.free + row.held;
                }
            }
            return units;
        }

        int unitsBought() {
            int units = 0;
            for (int i = 0; i < productCount; i++) {
                units += productAt(i).bought;
            }
            return units;
        }

        private boolean isStocked(int number, int product) {
            Batch row = batchAt(number);
            return row.product == product && row.free + row.held > 0;
        }

        int stockedBatches(int product) {
            int count = 0;
            for (int i = 0; i < batchCount; i++) {
                count += isStocked(i, product) ? 1 : 0;
            }
            return count;
        }

        int stockedBatch(int product, int index) {
            int passed = 0;
            for (int i = 0; i < batchCount; i++) {
                if (isStocked(i, product)) {
                    if (passed == index) {
                        return i;
                    }
                    passed++;
                }
            }
            return NONE;
        }

        int buyersArrived(int product) {
            int count = 0;
            for (int i = 0; i < buyerCount; i++) {
                Buyer row = buyerAt(i);
                count += row.product == product && row.state != NOT_ARRIVED ? 1 : 0;
            }
            return count;
        }

        int buyersGone(int product) {
            int count = 0;
            for (int i = 0; i < buyerCount; i++) {
                Buyer row = buyerAt(i);
                count += row.product == product && row.state == LEFT ? 1 : 0;
            }
            return count;
        }

        int waitingWithValue(int product, int least) {
            int count = 0;
            for (int i = 0; i < buyerCount; i++) {
                Buyer row = buyerAt(i);
                count += row.state == WAITING && row.product == product && row.value >= least ? 1 : 0;
            }
            return count;
        }

        int totalIncome() {
            int sum = 0;
            for (int i = 0; i < productCount; i++) {
                Product row = productAt(i);
                sum += row.revenue + row.forfeited;
            }
            return sum;
        }

        int totalWelfare() {
            int sum = 0;
            for (int i = 0; i < buyerCount; i++) {
                Buyer row = buyerAt(i);
                sum += row.state == BOUGHT ? row.value : 0;
            }
            return sum;
        }
    }

    /** Reads market text into a draft, which is of no use after an error. */
    private static final class Reader {
        private static final int END = 0;
        private static final int WORD = 1;
        private static final int NUMBER = 2;
        private static final int SEMICOLON = 3;
        private static final int NO_TOKEN = 4;

        private final byte[] text;
        private final Market draft;
        private int length;
        private int position;
        private int kind;
        private int start;
        private final StringBuilder letters = new StringBuilder();
        private String word = "";
        private int number;
        private boolean feeSeen;
        private int code = NO_ERROR;
        private int offset = NONE;

        Reader(byte[] text, Market draft) {
            this.text = text;
            this.draft = draft;
        }

        void read(int textLength) {
            length = textLength;
            position = 0;
            feeSeen = false;
            code = NO_ERROR;
            offset = NONE;
            draft.clear();
            advance();
            for (int i = 0; i < INPUT_LIMIT && kind != END && code == NO_ERROR; i++) {
                if (isWord("fee")) {
                    readFee();
                } else if (isWord("product")) {
                    readProduct();
                } else if (isWord("batch")) {
                    readBatch();
                } else if (isWord("buyer")) {
                    readBuyer();
                } else {
                    fail(SYNTAX);
                }
            }
        }

        /** Only the first error counts, so reading may go on to the end of the statement after one. */
        private void fail(int newCode) {
            if (code == NO_ERROR) {
                code = newCode;
                offset = start;
            }
        }

        private void readFee() {
            if (feeSeen) {
                fail(MISPLACED);
            }
            feeSeen = true;
            advance();
            draft.fee = readNumber(0, MOST_PERCENT);
            readSemicolon();
        }

        private void readProduct() {
            if (draft.productCount >= PRODUCT_LIMIT) {
                fail(MISPLACED);
                return;
            }
            advance();
            String name = readNewName();
            readWord("base");
            int base = readNumber(1, MOST_PRICE);
            readWord("life");
            int life = readNumber(1, MOST_LIFE);
            readLadder(draft.enrolProduct(name, base, life));
            readSemicolon();
        }

        private void readLadder(Product row) {
            int age = 0;
            for (int i = 0; i < STEP_LIMIT && isWord("markdown"); i++) {
                advance();
                age = readNumber(age + 1, MOST_AGE);
                row.putStep(age, readNumber(0, MOST_PERCENT));
            }
            if (isWord("markdown")) {
                fail(MISPLACED);
            }
        }

        private void readBatch() {
            if (draft.batchCount >= BATCH_LIMIT) {
                fail(MISPLACED);
                return;
            }
            advance();
            int onDay = readNumber(0, MOST_LOADED_DAY);
            int product = readKnownName();
            draft.enrolBatch(product, onDay, readNumber(1, MOST_UNITS));
            readSemicolon();
        }

        private void readBuyer() {
            if (draft.buyerCount >= BUYER_LIMIT) {
                fail(MISPLACED);
                return;
            }
            advance();
            int onDay = readNumber(0, MOST_LOADED_DAY);
            int product = readKnownName();
            int value = readNumber(0, MOST_PRICE);
            int patience = readOption("patience", 0, MOST_PATIENCE, 0);
            int strategic = readOption("strategic", 0, MOST_COST, NONE);
            int stale = readOption("stale", 0, MOST_COST, 0);
            int hold = readOption("hold", 1, MOST_HOLD_DAYS, 0);
            draft.enrolBuyer(product, onDay, value, patience, strategic, stale, hold);
            readSemicolon();
        }

        private int readOption(String keyword, int least, int most, int without) {
            if (!isWord(keyword)) {
                return without;
            }
            advance();
            return readNumber(least, most);
        }

        private int readNumber(int least, int most) {
            if (kind != NUMBER) {
                fail(SYNTAX);
            } else if (number < least || number > most) {
                fail(OUT_OF_RANGE);
            }
            int found = number;
            advance();
            return found;
        }

        private String readNewName() {
            if (!isName()) {
                fail(SYNTAX);
            } else if (draft.productNamed(word) != NONE) {
                fail(BAD_NAME);
            }
            String found = word;
            advance();
            return found;
        }

        private int readKnownName() {
            int found = draft.productNamed(word);
            if (!isName()) {
                fail(SYNTAX);
            } else if (found == NONE) {
                fail(BAD_NAME);
            }
            advance();
            return found;
        }

        private void readWord(String keyword) {
            if (!isWord(keyword)) {
                fail(SYNTAX);
            }
            advance();
        }

        private void readSemicolon() {
            if (kind != SEMICOLON) {
                fail(SYNTAX);
            }
            advance();
        }

        private boolean isWord(String wanted) {
            return kind == WORD && word.equals(wanted);
        }

        private boolean isName() {
            return kind == WORD && word.length() <= NAME_LIMIT && !isKeyword();
        }

        private boolean isKeyword() {
            return word.equals("fee") || word.equals("product") || word.equals("base")
                    || word.equals("life") || word.equals("markdown") || word.equals("batch")
                    || word.equals("buyer") || word.equals("patience") || word.equals("strategic")
                    || word.equals("stale") || word.equals("hold");
        }

        private void advance() {
            while (position < length && (byteAt(position) == ' ' || byteAt(position) == '\n')) {
                position++;
            }
            start = position;
            int first = byteAt(position);
            if (first == NONE) {
                kind = END;
            } else if (isLetter(first)) {
                scanWord();
            } else if (isDigit(first)) {
                scanNumber();
            } else {
                kind = first == ';' ? SEMICOLON : NO_TOKEN;
                position++;
            }
        }

        private void scanWord() {
            letters.setLength(0);
            while (position < length && isLetter(byteAt(position))) {
                letters.append((char) byteAt(position));
                position++;
            }
            kind = WORD;
            word = letters.toString();
        }

        private void scanNumber() {
            number = 0;
            while (position < length && isDigit(byteAt(position))) {
                // Digits past the fourth are only counted: the token is an error, and must not overflow.
                if (position - start < DIGIT_LIMIT) {
                    number = number * 10 + byteAt(position) - '0';
                }
                position++;
            }
            kind = position - start <= DIGIT_LIMIT ? NUMBER : NO_TOKEN;
        }

        private int byteAt(int index) {
            return index >= 0 && index < length && index < text.length ? text[index] & 255 : NONE;
        }

        private static boolean isLetter(int sign) {
            return sign >= 'a' && sign <= 'z';
        }

        private static boolean isDigit(int sign) {
            return sign >= '0' && sign <= '9';
        }
    }

    /**
     * An assignment in hindsight that serves the buyers of greater value first. Buyers who can be served together
     * form a matroid, so this one assignment has the greatest sum of values, and among the buyers of at least any
     * value it serves as many as any assignment could.
     */
    private static final class Assignment {
        private final Market market;
        private final int[] batchOf = new int[BUYER_LIMIT];
        private final boolean[] tried = new boolean[BUYER_LIMIT];
        private final int[] unitsLeft = new int[BATCH_LIMIT];
        private final int[] reachedBy = new int[BATCH_LIMIT];
        private final Line searched = new Line();

        Assignment(Market market) {
            this.market = market;
        }

        void fill() {
            for (int i = 0; i < BUYER_LIMIT; i++) {
                batchOf[i] = NONE;
                tried[i] = false;
            }
            for (int i = 0; i < BATCH_LIMIT; i++) {
                unitsLeft[i] = market.batchAt(i).units;
            }
            for (int i = 0; i < market.buyerCount; i++) {
                int next = nextBuyer();
                if (next >= 0 && next < tried.length) {
                    tried[next] = true;
                    serve(next);
                }
            }
        }

        private int nextBuyer() {
            int next = NONE;
            for (int i = 0; i < market.buyerCount && i < BUYER_LIMIT; i++) {
                Buyer row = market.buyerAt(i);
                if (row.state != NOT_ARRIVED && !tried[i]
                        && (next == NONE || row.value > market.buyerAt(next).value)) {
                    next = i;
                }
            }
            return next;
        }

        /** Those served before keep being served, though perhaps from another batch. */
        private void serve(int newcomer) {
            for (int i = 0; i < BATCH_LIMIT; i++) {
                reachedBy[i] = NONE;
            }
            searched.size = 0;
            searched.add(newcomer);
            for (int i = 0; i < BUYER_LIMIT && i < searched.size; i++) {
                int ending = searchFrom(searched.numberAt(i));
                if (ending != NONE) {
                    handOver(ending);
                    return;
                }
            }
        }

        /** A batch with a unit left that fits the buyer; without one, the owners of what fits are searched later. */
        private int searchFrom(int number) {
            Buyer customer = market.buyerAt(number);
            for (int i = 0; i < market.batchCount && i < BATCH_LIMIT; i++) {
                if (reachedBy[i] == NONE && market.fits(customer, market.batchAt(i))) {
                    reachedBy[i] = number;
                    if (unitsLeft[i] > 0) {
                        return i;
                    }
                    searchOwnersLater(i);
                }
            }
            return NONE;
        }

        private void searchOwnersLater(int batchNumber) {
            for (int i = 0; i < BUYER_LIMIT; i++) {
                if (batchOf[i] == batchNumber) {
                    searched.add(i);
                }
            }
        }

        private void handOver(int ending) {
            int vacant = inside(ending, BATCH_LIMIT);
            unitsLeft[vacant]--;
            for (int i = 0; i < BUYER_LIMIT && vacant != NONE; i++) {
                int taker = inside(reachedBy[inside(vacant, BATCH_LIMIT)], BUYER_LIMIT);
                int before = batchOf[taker];
                batchOf[taker] = vacant;
                vacant = before;
            }
        }

        int sumOfValues() {
            int sum = 0;
            for (int i = 0; i < BUYER_LIMIT; i++) {
                sum += batchOf[i] == NONE ? 0 : market.buyerAt(i).value;
            }
            return sum;
        }

        int buyersServed() {
            int count = 0;
            for (int i = 0; i < BUYER_LIMIT; i++) {
                count += batchOf[i] == NONE ? 0 : 1;
            }
            return count;
        }

        int resultFor(int product, int price) {
            int count = 0;
            for (int i = 0; i < BUYER_LIMIT; i++) {
                Buyer row = market.buyerAt(i);
                count += batchOf[i] != NONE && row.product == product && row.value >= price ? 1 : 0;
            }
            return price * count;
        }

        int bestPrice(int product) {
            int best = NONE;
            int bestResult = 0;
            for (int i = 0; i < market.buyerCount; i++) {
                Buyer row = market.buyerAt(i);
                if (row.product == product && row.state != NOT_ARRIVED && row.value >= 1) {
                    int result = resultFor(product, row.value);
                    if (best == NONE || result > bestResult || result == bestResult && row.value < best) {
                        best = row.value;
                        bestResult = result;
                    }
                }
            }
            return best;
        }
    }
}
