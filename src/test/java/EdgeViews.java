/** Promises 8 to 24: the days and what can be seen of the market, sentence by sentence. */
final class EdgeViews {
    private static final String NO_PRODUCT = "Throws IndexOutOfBoundsException if product is out of range";
    private static final String NO_BUYER = "Throws IndexOutOfBoundsException if buyer is out of range";
    private static final String SIX = "product a base 1 life 1;product b base 2 life 2;product c base 3 life 3;"
            + "product d base 4 life 4;product e base 5 life 5;product f base 6 life 60 markdown 59 50;";

    private EdgeViews() {
    }

    static void test() {
        day();
        run();
        percentAt();
        priceAt();
        figure();
        figuresOneByOne();
        batches();
        batch();
        buyers();
        buyerState();
        buyer();
        paid();
        waiting();
        bestBatch();
        waitsFor();
        holds();
    }

    private static MarkdownMarket busy() {
        MarkdownMarket m = Check.market(SIX + "fee 50;batch 0 f 3;batch 1 f 2;buyer 0 f 6;buyer 0 f 7 hold 9;"
                + "buyer 0 f 5 patience 9;buyer 9 a 1;", 2);
        m.saveState();
        m.printReport();
        Check.load(m, "$");
        Check.put(m, "fee");
        return m;
    }

    private static void day() {
        Document.quote(8, "Returns the present day. Returns the day;");
        MarkdownMarket m = Check.market(SIX, 1);
        Check.same("first day", m.day(), 0);
        m.run(60);
        Check.same("60 days later", m.day(), 60);
        Document.quote(8, "-1 before the first day.");
        Check.same("of a loaded market", Check.market(SIX).day(), -1);
        Check.same("of a new object", new MarkdownMarket().day(), -1);
    }

    private static void run() {
        MarkdownMarket m = Check.market("product a base 10 life 9;batch 0 a 9;batch 1 a 9;buyer 0 a 10;buyer 0 a 9;"
                + "buyer 1 a 10 hold 1;buyer 1 a 10 stale 99 hold 2;buyer 2 a 30 patience 9;buyer 3 a 10;");
        Document.quote(9, "Simulates days.");
        Check.same("a day", m.run(1) * 10 + m.day(), 10);
        Document.quote(9, "Returns the number of units that were bought on these days.");
        Check.same("none: a hold is no purchase", m.run(1), 0);
        Check.same("a held unit and a new buyer's", m.run(1), 2);
        Check.same("a new buyer's; a holder's hold is cancelled", m.run(1), 1);
        Check.same("nobody is left", m.run(60), 0);
        MarkdownMarket swap = Check.market("product a base 10 life 9;batch 0 a 1;batch 1 a 1;buyer 0 a 10 stale 9 hold 1;", 1);
        Check.same("another unit than the held one", swap.run(1), 1);
        MarkdownMarket sold = Check.market("product a base 10 life 9;batch 0 a 2;buyer 0 a 9 patience 9;buyer 1 a 10;", 1);
        sold.sell(0, 0, 9);
        Check.same("not what was sold before", sold.run(1), 1);
        Document.quote(9, "days: 1 to 60");
        MarkdownMarket all = Check.market("product a base 10 life 60;batch 0 a 9;buyer 59 a 10;buyer 60 a 10;");
        Check.same("60", all.run(60) * 100 + all.day(), 159);
        Check.same("1", all.run(1) * 100 + all.day(), 60);
        Document.quote(9, "Throws IllegalArgumentException if days is out of range");
        MarkdownMarket n = busy();
        Edge.refuses(n, Edge.ARGUMENT, 1, 60, n::run);
    }

    private static void products(int promise, MarkdownMarket m, Edge.Call call) {
        Document.quote(promise, "product: number of a product");
        Edge.takes(0, m.products() - 1, call);
        Document.quote(promise, NO_PRODUCT);
        Edge.refuses(m, Edge.INDEX, 0, m.products() - 1, call);
    }

    private static void percentAt() {
        MarkdownMarket m = busy();
        Document.quote(10, "Returns the percentage of a product at an age.");
        Check.same("before the step", m.percentAt(5, 58), 100);
        Check.same("other product", m.percentAt(4, 59), 100);
        Document.quote(10, "Returns the percentage.");
        Check.same("at the step", m.percentAt(5, 59), 50);
        Document.quote(10, "age: 0 to 59");
        Edge.takes(0, 59, age -> m.percentAt(0, age));
        Document.quote(10, "Throws IllegalArgumentException if age is out of range");
        Edge.refuses(m, Edge.ARGUMENT, 0, 59, age -> m.percentAt(5, age));
        products(10, m, product -> m.percentAt(product, 0));
        Edge.refuses(m, Edge.INDEX, 0, 5, product -> m.percentAt(product, 60));
        Check.fails("without products", Edge.INDEX, () -> new MarkdownMarket().percentAt(0, 60));
    }

    private static void priceAt() {
        MarkdownMarket m = busy();
        Document.quote(11, "Returns the price of a unit of a product at an age.");
        Check.same("before the step", m.priceAt(5, 58), 6);
        Check.same("past the shelf life", m.priceAt(0, 59), 1);
        Document.quote(11, "Returns the price.");
        Check.same("at the step", m.priceAt(5, 59), 3);
        Document.quote(11, "age: 0 to 59");
        Edge.takes(0, 59, age -> m.priceAt(0, age));
        Document.quote(11, "Throws IllegalArgumentException if age is out of range");
        Edge.refuses(m, Edge.ARGUMENT, 0, 59, age -> m.priceAt(5, age));
        products(11, m, product -> m.priceAt(product, 0));
        Edge.refuses(m, Edge.INDEX, 0, 5, product -> m.priceAt(product, -1));
        Check.fails("without products", Edge.INDEX, () -> new MarkdownMarket().priceAt(0, 60));
    }

    private static void figuresAre(String what, MarkdownMarket m, int product, int... due) {
        for (int i = 0; i < due.length; i++) {
            Check.same(what + ", figure " + i, m.figure(product, i), due[i]);
        }
    }

    private static void figure() {
        Document.quote(12, "Returns a figure of a product.");
        String text = "fee 50;product z base 1 life 1;product a base 40 life 3;batch 0 a 8;batch 1 a 9;batch 5 a 50;batch 0 z 1;"
                + "buyer 0 a 40;buyer 0 a 45 stale 30 hold 1;buyer 0 a 39;buyer 1 a 40 hold 9;buyer 2 a 40;buyer 9 a 40;"
                + "buyer 0 z 0;";
        MarkdownMarket m = Check.market(text);
        figuresAre("before the first day", m, 1, 0, 0, 0, 0, 0, 0, 0, 40, 3, 0, 0);
        m.run(2);
        // Buyer 1: r is 45 - 40 + 20 - 30; a new unit leaves 5.
        figuresAre("day 1", m, 1, 17, 2, 14, 1, 0, 80, 20, 40, 3, 4, 1);
        figuresAre("the other product", m, 0, 1, 0, 0, 0, 1, 0, 0, 1, 1, 1, 1);
        Document.quote(12, "what: 0 the units delivered, 1 the units bought, 2 the free units, 3 the held units, 4 the units "
                + "discarded, 5 the revenue, 6 the forfeited deposits, 7 the base price, 8 the shelf life, 9 the buyers who "
                + "have arrived, 10 the buyers who left");
        m.run(2);
        figuresAre("day 3", m, 1, 17, 3, 8, 0, 6, 120, 20, 40, 3, 5, 2);
        m.run(1);
        figuresAre("day 4", m, 1, 17, 3, 0, 0, 14, 120, 20, 40, 3, 5, 2);
        m.run(1);
        figuresAre("day 5", m, 1, 67, 3, 50, 0, 14, 120, 20, 40, 3, 5, 2);
        Document.quote(12, "Returns the figure.");
        Edge.takes(0, 10, what -> m.figure(1, what));
        Document.quote(12, "Throws IllegalArgumentException if what is out of range");
        Edge.refuses(m, Edge.ARGUMENT, 0, 10, what -> m.figure(1, what));
        products(12, m, product -> m.figure(product, 0));
        Edge.refuses(m, Edge.INDEX, 0, 1, product -> m.figure(product, 11));
    }

    private static void figuresOneByOne() {
        Document.quote(12, "4 the units discarded,");
        MarkdownMarket m = Check.market("product a base 10 life 2;batch 0 a 50;buyer 0 a 10 hold 9;", 1);
        m.discard(0);
        Check.same("by a call", m.figure(0, 4), 49);
        m.run(2);
        Check.same("held ones too", m.figure(0, 4), 50);
        Document.quote(12, "5 the revenue, 6 the forfeited deposits,");
        MarkdownMarket dear = Check.market("fee 100;product a base 9999 life 3;batch 0 a 50;batch 1 a 1;buyer 0 a 9999;"
                + "buyer 0 a 9999;buyer 0 a 9999 hold 1;buyer 0 a 9999 hold 9;", 1);
        Check.same("a deposit is no revenue", dear.figure(0, 5), 19998);
        Check.same("nor forfeited", dear.figure(0, 6), 0);
        dear.release(3);
        Check.same("a deposit given back", dear.figure(0, 5) + dear.figure(0, 6), 19998);
        dear.run(1);
        Check.same("the price of a hold", dear.figure(0, 5), 29997);
        Document.quote(12, "9 the buyers who have arrived, 10 the buyers who left");
        Check.same("in whatever state", dear.figure(0, 9), 4);
        Check.same("by a release", dear.figure(0, 10), 1);
        dear.addBuyer(0, 0, 0, -1, 0, 0);
        Check.same("not yet", dear.figure(0, 9), 4);
        dear.run(1);
        Check.same("now", dear.figure(0, 9) * 10 + dear.figure(0, 10), 52);
        MarkdownMarket all = Check.market("product a base 10 life 9;" + "buyer 0 a 9;".repeat(39) + "buyer 1 a 9;", 1);
        Check.same("39 of 40", all.figure(0, 9) * 100 + all.figure(0, 10), 3939);
        all.run(1);
        Check.same("40 of 40", all.figure(0, 9) * 100 + all.figure(0, 10), 4040);
    }

    private static void batches() {
        Document.quote(13, "Returns the number of batches of a product that have free or held units.");
        MarkdownMarket m = Check.market("product a base 10 life 2;product b base 10 life 60;batch 0 a 1;batch 0 a 1;"
                + "batch 1 a 1;batch 0 b 1;buyer 0 a 10 hold 9;buyer 0 a 10;");
        Check.same("before the first day", m.batches(0), 0);
        m.run(1);
        Check.same("one held, one sold", m.batches(0), 1);
        Check.same("other product", m.batches(1), 1);
        Document.quote(13, "Returns the number.");
        m.run(1);
        Check.same("one more", m.batches(0), 2);
        m.run(1);
        Check.same("one less", m.batches(0), 1);
        m.run(1);
        Check.same("none", m.batches(0), 0);
        Check.same("all 24", Check.market(SIX + "batch 0 f 1;".repeat(24), 1).batches(5), 24);
        products(13, m, m::batches);
    }

    private static void batchIs(MarkdownMarket m, int index, int... due) {
        for (int what = 0; what < due.length; what++) {
            Check.same("batch " + index + ", property " + what, m.batch(0, index, what), due[what]);
        }
    }

    private static void batch() {
        Document.quote(14, "Returns a property of a batch that has free or held units.");
        MarkdownMarket m = Check.market("product a base 99 life 4 markdown 2 50;product b base 1 life 9;batch 2 a 5;batch 0 b 1;"
                + "batch 0 a 2;batch 1 a 1;batch 9 a 9;buyer 0 a 99 hold 9;buyer 1 a 99;buyer 1 a 99;", 3);
        Check.same("number of the first one", m.batch(0, 0, 0), 0);
        Document.quote(14, "index: index among the batches of the product with free or held units, from 0, by ascending number");
        batchIs(m, 0, 0, 2, 5, 0, 99, 0);
        batchIs(m, 1, 2, 0, 0, 1, 49, 2);
        Document.quote(14, "what: 0 its number, 1 its day of delivery, 2 its free units, 3 its held units, 4 the price of a "
                + "unit, 5 its age Returns the property.");
        m.run(1);
        batchIs(m, 0, 0, 2, 5, 0, 99, 1);
        batchIs(m, 1, 2, 0, 0, 1, 49, 3);
        Check.same("other product", m.batch(1, 0, 0), 1);
        Edge.takes(0, 5, what -> m.batch(0, 1, what));
        MarkdownMarket all = Check.market(SIX + "batch 0 f 1;".repeat(24), 1);
        Check.same("the 24th", all.batch(5, 23, 0), 23);
        products(14, m, product -> m.batch(product, 0, 0));
        Edge.refuses(m, Edge.INDEX, 0, 1, product -> m.batch(product, 9, 9));
        Document.quote(14, "Throws NoSuchElementException if there is no such batch");
        Edge.refuses(m, Edge.NO_ELEMENT, 0, 1, index -> m.batch(0, index, 0));
        Edge.refuses(m, Edge.NO_ELEMENT, 0, 1, index -> m.batch(0, index, 6));
        Edge.refuses(all, Edge.NO_ELEMENT, 0, 23, index -> all.batch(5, index, 0));
        Edge.refuses(all, "none at all", Edge.NO_ELEMENT, () -> all.batch(0, 0, 0));
        Document.quote(14, "Throws IllegalArgumentException if what is out of range");
        Edge.refuses(m, Edge.ARGUMENT, 0, 5, what -> m.batch(0, 1, what));
    }

    private static void buyers() {
        Document.quote(15, "Returns the number of buyers, whether they have arrived or not.");
        MarkdownMarket m = Check.market(SIX + "buyer 0 a 1;buyer 999 a 1;", 1);
        Check.same("one has left, one is to come", m.buyers(), 2);
        m.addBuyer(0, 1, 0, -1, 0, 0);
        Check.same("one more", m.buyers(), 3);
        Document.quote(15, "Returns 0 to 40.");
        Check.same("0", Check.market(SIX).buyers() + new MarkdownMarket().buyers(), 0);
        for (int i = 3; i < 40; i++) {
            m.addBuyer(5, 1, 0, -1, 0, 0);
        }
        Check.same("40", m.buyers(), 40);
        Check.fails("not more", Edge.STATE, () -> m.addBuyer(0, 1, 0, -1, 0, 0));
        Check.same("still 40", m.buyers(), 40);
    }

    private static void numbers(int promise, MarkdownMarket m, Edge.Call call) {
        Document.quote(promise, "buyer: number of a buyer");
        Edge.takes(0, m.buyers() - 1, call);
        Document.quote(promise, NO_BUYER);
        Edge.refuses(m, Edge.INDEX, 0, m.buyers() - 1, call);
    }

    private static MarkdownMarket crowd() {
        return Check.market("product a base 10 life 9;batch 0 a 2;" + "buyer 0 a 10;buyer 1 a 10 patience 1 hold 9;"
                + "buyer 0 a 9;".repeat(37) + "buyer 2 a 8 patience 30;", 1);
    }

    private static void buyerState() {
        Document.quote(16, "Returns the state of a buyer.");
        MarkdownMarket m = crowd();
        Check.same("bought", m.buyerState(0), 3);
        Check.same("left", m.buyerState(38), 4);
        Document.quote(16, "Returns 0 not arrived, 1 waiting, 2 holding, 3 bought, 4 left.");
        Check.same("not arrived", m.buyerState(39), 0);
        m.run(2);
        Check.same("waiting", m.buyerState(39), 1);
        Check.same("holding", m.buyerState(1), 2);
        m.run(30);
        Check.same("left on the leaving day", m.buyerState(39), 4);
        numbers(16, m, m::buyerState);
        Check.fails("without buyers", Edge.INDEX, () -> Check.market(SIX).buyerState(0));
    }

    private static void buyerIs(MarkdownMarket m, int buyer, int... due) {
        for (int what = 0; what < due.length; what++) {
            Check.same("buyer " + buyer + ", property " + what, m.buyer(buyer, what), due[what]);
        }
    }

    private static void buyer() {
        Document.quote(17, "Returns a property of a buyer.");
        MarkdownMarket m = Check.market("fee 30;product a base 10 life 9;product b base 20 life 9;batch 0 b 2;batch 1 a 2;"
                + "buyer 1 b 25 patience 3 hold 2;buyer 0 b 20;buyer 0 a 9;buyer 0 a 9 patience 2;buyer 9 b 9999 patience 30;", 2);
        Check.same("product of the first one", m.buyer(0, 0), 1);
        Document.quote(17, "what: 0 the product, 1 the value, 2 the day of arrival, 3 the leaving day,");
        buyerIs(m, 0, 1, 25, 1, 4);
        buyerIs(m, 4, 1, 9999, 9, 39);
        Document.quote(17, "4 what the buyer has paid in all (a deposit that was not given back counts, too), 5 the day on which "
                + "the buyer bought or left (-1 if neither), 6 the batch of the unit that the buyer holds or bought (-1 without "
                + "one)");
        buyerIs(m, 0, 1, 25, 1, 4, 6, -1, 0);
        buyerIs(m, 1, 1, 20, 0, 0, 20, 0, 0);
        buyerIs(m, 2, 0, 9, 0, 0, 0, 0, -1);
        buyerIs(m, 3, 0, 9, 0, 2, 0, -1, -1);
        buyerIs(m, 4, 1, 9999, 9, 39, 0, -1, -1);
        Document.quote(17, "Returns the property.");
        m.run(2);
        buyerIs(m, 0, 1, 25, 1, 4, 20, 3, 0);
        buyerIs(m, 3, 0, 9, 0, 2, 0, 2, -1);
        numbers(17, m, number -> m.buyer(number, 0));
        Edge.refuses(m, Edge.INDEX, 0, 4, number -> m.buyer(number, 7));
        Document.quote(17, "Throws IllegalArgumentException if what is out of range");
        Edge.takes(0, 6, what -> m.buyer(4, what));
        Edge.refuses(m, Edge.ARGUMENT, 0, 6, what -> m.buyer(4, what));
    }

    private static void paid() {
        Document.quote(17, "(a deposit that was not given back counts, too)");
        String text = "fee 100;product a base 9999 life 3 markdown 1 0;batch 0 a 3;buyer 0 a 9999 hold ";
        Check.same("a deposit and nothing more for the held unit", Check.market(text + "1;", 2).buyer(0, 4), 9999);
        Check.same("given back as the unit is discarded", Check.market(text + "9;", 4).buyer(0, 4), 0);
        MarkdownMarket given = Check.market(text + "9;", 1);
        given.release(0);
        Check.same("given back by a release", given.buyer(0, 4), 0);
        // A fee of 50 leaves 50 percent of the price to be saved; the new price is 0.
        MarkdownMarket swap = Check.market(text.replace("100", "50") + "1;", 2);
        Check.same("a forfeited deposit, and 0 for another unit", swap.buyer(0, 4), 4999);
        MarkdownMarket gone = Check.market("fee 50;product a base 10 life 9;batch 0 a 1;buyer 0 a 10 stale 6 hold 1;", 2);
        Check.same("a forfeited deposit, and no unit", gone.buyer(0, 4), 5);
        Document.quote(17, "5 the day on which the buyer bought or left (-1 if neither)");
        Check.same("left", gone.buyer(0, 5), 1);
        Check.same("bought", swap.buyer(0, 5), 1);
        Check.same("neither", Check.market(text + "9;", 1).buyer(0, 5), -1);
        Document.quote(17, "6 the batch of the unit that the buyer holds or bought (-1 without one)");
        Check.same("without one any more", gone.buyer(0, 6) + given.buyer(0, 6), -2);
        Check.same("another unit of the batch", swap.buyer(0, 6), 0);
        MarkdownMarket last = Check.market(SIX + "batch 5 f 1;".repeat(23) + "batch 0 f 1;buyer 0 f 6;", 1);
        Check.same("the last batch", last.buyer(0, 6), 23);
    }

    private static void waiting() {
        Document.quote(18, "Returns the number of waiting buyers. Returns the number.");
        String text = "product a base 10 life 9;" + "buyer 0 a 9 patience 2;".repeat(20) + "buyer 1 a 9 patience 1;".repeat(20);
        MarkdownMarket m = Check.market(text);
        int[] numbers = {0, 20, 40, 0};
        for (int due : numbers) {
            Check.same("on day " + m.day(), m.waiting(), due);
            m.run(1);
        }
        MarkdownMarket all = Check.market(text, 2);
        Document.quote(19, "Returns a waiting buyer.");
        Check.same("the first", all.waitingBuyer(0), 0);
        Document.quote(19, "index: index in the order of arrival, from 0");
        MarkdownMarket turned = Check.market(text.replace("buyer 1", "buyer 9").replace("buyer 0", "buyer 1")
                .replace("buyer 9", "buyer 0"), 2);
        Check.same("who came first left first", turned.waiting(), 20);
        Check.same("who is left", turned.waitingBuyer(19), 19);
        MarkdownMarket order = Check.market("product a base 10 life 9;buyer 1 a 9 patience 9;buyer 0 a 9 patience 9;", 2);
        Check.same("by the day of arrival", order.waitingBuyer(0) * 10 + order.waitingBuyer(1), 10);
        Document.quote(19, "Returns number of the buyer.");
        Check.same("the last", all.waitingBuyer(39), 39);
        Document.quote(19, "Throws NoSuchElementException if there is no such buyer");
        Edge.takes(0, 39, all::waitingBuyer);
        Edge.refuses(all, Edge.NO_ELEMENT, 0, 39, all::waitingBuyer);
        Edge.refuses(turned, Edge.NO_ELEMENT, 0, 19, turned::waitingBuyer);
        Edge.refuses(m, "nobody", Edge.NO_ELEMENT, () -> m.waitingBuyer(0));
    }

    private static void bestBatch() {
        MarkdownMarket m = Check.market("product a base 10 life 9 markdown 1 50;batch 0 a 1;batch 1 a 1;buyer 9 a 5;"
                + "buyer 9 a 4;buyer 9 a 10;buyer 0 a 20 hold 9;");
        Document.quote(20, "Returns the best batch for a buyer at present.");
        Check.same("before the first day", m.bestBatch(2), -1);
        m.run(1);
        Check.same("the unit is held", m.bestBatch(2), -1);
        m.run(1);
        Check.same("a new unit", m.bestBatch(2), 1);
        Document.quote(20, "Returns number of the batch; -1 if there is none.");
        Check.same("too dear", m.bestBatch(0), -1);
        m.run(1);
        Check.same("just right", m.bestBatch(0), 1);
        Check.same("still too dear", m.bestBatch(1), -1);
        Document.quote(21, "Returns the surplus of the best batch for a buyer at present.");
        Check.same("20 - 5", m.bestSurplus(3), 15);
        Document.quote(21, "Returns the surplus; -1 if there is no best batch.");
        Check.same("0", m.bestSurplus(0), 0);
        Check.same("none", m.bestSurplus(1), -1);
        MarkdownMarket most = Check.market("product a base 1 life 9 markdown 1 0;batch 0 a 1;buyer 9 a 9999;", 2);
        Check.same("greatest", most.bestSurplus(0), 9999);
        numbers(20, m, m::bestBatch);
        numbers(21, m, m::bestSurplus);
    }

    private static void waitsFor() {
        String text = "product a base 100 life 9 markdown 1 90 markdown 2 80 markdown 4 60;batch 0 a 9;buyer 0 a 100 patience ";
        Document.quote(22, "Returns the day for which a buyer prefers to wait: of the later days up to the leaving day, the one "
                + "with the greatest expectation,");
        int[][] cases = {{1, 0, 1}, {2, 0, 2}, {3, 0, 2}, {4, 0, 4}, {5, 0, 4}, {30, 0, 4}, {30, 9, 4}, {30, 10, -1},
            {30, 1, 4}, {0, 0, -1}};
        for (int[] c : cases) {
            MarkdownMarket m = Check.market(text + c[0] + " strategic " + c[1] + ";", 1);
            Check.same("patience " + c[0] + ", cost " + c[1], m.waitsFor(0), c[2]);
        }
        Document.quote(22, "the earliest one on a tie.");
        MarkdownMarket tie = Check.market("product a base 100 life 9 markdown 1 98 markdown 2 97 markdown 3 96;batch 0 a 9;"
                + "buyer 0 a 100 patience 9 strategic 1;", 1);
        Check.same("1, 1 and 1", tie.waitsFor(0), 1);
        Check.same("20 on the days 2 and 3", Check.market(text + "3 strategic 0;", 1).waitsFor(0), 2);
        Document.quote(22, "Returns the day; -1 if the buyer is not strategic, has no best batch at present, or does not prefer "
                + "to wait.");
        MarkdownMarket m = Check.market(text + "4;buyer 3 a 100 patience 4 strategic 0;buyer 0 a 99 patience 9 strategic 0;"
                + "buyer 0 a 100 patience 9 strategic 99;", 1);
        Check.same("not strategic", m.waitsFor(0), -1);
        Check.same("strategic, and still to come", m.waitsFor(1), 4);
        Check.same("no best batch", m.waitsFor(2), -1);
        Check.same("does not prefer it", m.waitsFor(3), -1);
        m.run(4);
        Check.same("on the day itself", m.waitsFor(1), -1);
        numbers(22, m, m::waitsFor);
    }

    private static void holdIs(MarkdownMarket m, int index, int... due) {
        for (int what = 0; what < due.length; what++) {
            Check.same("hold " + index + ", property " + what, m.hold(index, what), due[what]);
        }
    }

    private static void holds() {
        Document.quote(23, "Returns the number of holds. Returns the number.");
        MarkdownMarket m = Check.market("fee 100;product a base 10 life 60;batch 0 a 40;" + "buyer 0 a 10 hold 1;".repeat(20)
                + "buyer 1 a 10 hold 9;".repeat(20));
        int[] numbers = {0, 20, 20, 20};
        for (int due : numbers) {
            Check.same("on day " + m.day(), m.holds(), due);
            m.run(1);
        }
        MarkdownMarket all = Check.market("fee 100;product a base 10 life 60;batch 0 a 40;" + "buyer 0 a 10 hold 9;".repeat(40), 1);
        Check.same("all buyers", all.holds(), 40);
        Document.quote(24, "Returns a property of a hold.");
        holdIs(all, 0, 0, 0, 10, 10, 9);
        Document.quote(24, "index: index in the order in which the holds began, from 0");
        holdIs(all, 39, 39, 0, 10, 10, 9);
        MarkdownMarket order = Check.market("fee 1;product a base 199 life 60 markdown 1 50;product b base 9 life 60;batch 0 b 9;"
                + "batch 1 a 9;buyer 2 a 999 hold 1;buyer 1 a 999 hold 9;buyer 1 b 99 hold 3;", 3);
        Document.quote(24, "what: 0 the buyer, 1 the batch, 2 the price, 3 the deposit, 4 the day on which it ends");
        holdIs(order, 0, 1, 1, 199, 1, 10);
        holdIs(order, 1, 2, 0, 9, 0, 4);
        holdIs(order, 2, 0, 1, 99, 0, 3);
        Document.quote(24, "Returns the property.");
        order.release(2);
        holdIs(order, 1, 0, 1, 99, 0, 3);
        Document.quote(24, "Throws NoSuchElementException if there is no such hold");
        Edge.refuses(all, Edge.NO_ELEMENT, 0, 39, index -> all.hold(index, 0));
        Edge.refuses(order, Edge.NO_ELEMENT, 0, 1, index -> order.hold(index, 5));
        Edge.refuses(m, "none at all", Edge.NO_ELEMENT, () -> Check.market(SIX).hold(0, 0));
        Document.quote(24, "Throws IllegalArgumentException if what is out of range");
        Edge.takes(0, 4, what -> order.hold(1, what));
        Edge.refuses(order, Edge.ARGUMENT, 0, 4, what -> order.hold(1, what));
    }
}
