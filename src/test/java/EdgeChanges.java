/** Promises 25 to 33, what a caller can change, and what stands in the description of refused calls. */
final class EdgeChanges {
    private static final String NO_PRODUCT = "Throws IndexOutOfBoundsException if product is out of range";
    private static final String PRODUCT = "product: number of a product";

    /** On day 1 there are two products, four batches (the last one to come), and a buyer in each state. */
    private static final String TEXT = "fee 30;product a base 10 life 5 markdown 1 60;product b base 20 life 9;batch 0 a 3;"
            + "batch 0 b 2;batch 1 a 1;batch 9 a 4;buyer 9 a 50;buyer 0 a 9 patience 9 stale 99;buyer 0 b 25 hold 9;"
            + "buyer 0 a 10;buyer 0 a 9;";

    private EdgeChanges() {
    }

    static void test() {
        severalExceptions();
        throwingChangesNothing();
        addBuyer();
        addBuyerRanges();
        addBatch();
        setBase();
        setFee();
        markDown();
        markDownRanges();
        removeStep();
        sell();
        sellRefused();
        release();
        discard();
    }

    private static MarkdownMarket market() {
        MarkdownMarket m = Check.market(TEXT, 2);
        m.printReport();
        Check.load(m, "fee 101;");
        Check.put(m, "fee 1;");
        return m;
    }

    private static MarkdownMarket full() {
        MarkdownMarket m = market();
        for (int i = 5; i < 40; i++) {
            m.addBuyer(0, 1, 0, -1, 0, 0);
        }
        for (int i = 4; i < 24; i++) {
            m.addBatch(0, 1);
        }
        for (int age = 2; age <= 5; age++) {
            m.markDown(0, age, 10);
        }
        return m;
    }

    private static void events(MarkdownMarket m, String due) {
        Check.same("events", Check.events(m), due);
    }

    private static void severalExceptions() {
        Document.quote(Document.DESCRIPTION, "If several exceptions apply to a call, the one that is listed first is thrown.");
        MarkdownMarket m = full();
        int[] wrong = {Integer.MIN_VALUE, -1, 99999, Integer.MAX_VALUE};
        for (int w : wrong) {
            Check.fails("percentAt", Edge.INDEX, () -> m.percentAt(w, w));
            Check.fails("priceAt", Edge.INDEX, () -> m.priceAt(w, w));
            Check.fails("figure", Edge.INDEX, () -> m.figure(w, w));
            Check.fails("batch", Edge.INDEX, () -> m.batch(w, w, w));
            Check.fails("batch of a product", Edge.NO_ELEMENT, () -> m.batch(0, w, w));
            Check.fails("buyer", Edge.INDEX, () -> m.buyer(w, w));
            Check.fails("hold", Edge.NO_ELEMENT, () -> m.hold(w, w));
            Check.fails("addBuyer", Edge.INDEX, () -> m.addBuyer(w, w, w, w - 1, w, w));
            Check.fails("addBuyer to a full market", Edge.ARGUMENT, () -> m.addBuyer(0, 0, 0, 0, 0, w));
            Check.fails("addBatch", Edge.INDEX, () -> m.addBatch(w, w));
            Check.fails("addBatch to a full market", Edge.ARGUMENT, () -> m.addBatch(0, w));
            Check.fails("setBase", Edge.INDEX, () -> m.setBase(w, w));
            Check.fails("markDown", Edge.INDEX, () -> m.markDown(w, w, w));
            Check.fails("markDown of a full ladder", Edge.ARGUMENT, () -> m.markDown(0, 59, w));
            Check.fails("sell to nobody", Edge.INDEX, () -> m.sell(w, 0, w));
            Check.fails("sell of nothing", Edge.INDEX, () -> m.sell(0, w, w));
            Check.fails("sell for a wrong price", Edge.ARGUMENT, () -> m.sell(0, 1, w));
            Check.fails("fixedResult", Edge.INDEX, () -> m.fixedResult(w, w));
            Check.fails("bestPercent", Edge.INDEX, () -> m.bestPercent(w, w));
            Check.fails("daysToSellOut", Edge.INDEX, () -> m.daysToSellOut(w, w));
            Check.fails("event", Edge.NO_ELEMENT, () -> m.event(w, w));
        }
    }

    private static void throwingChangesNothing() {
        Document.quote(Document.DESCRIPTION, "A method that throws changes nothing.");
        MarkdownMarket m = full();
        m.saveState();
        m.run(1);
        Edge.refuses(m, "run", Edge.ARGUMENT, () -> m.run(61));
        Edge.refuses(m, "a 41st buyer", Edge.STATE, () -> m.addBuyer(0, 0, 0, -1, 0, 0));
        Edge.refuses(m, "a 25th batch", Edge.STATE, () -> m.addBatch(0, 1));
        Edge.refuses(m, "a sixth step", Edge.STATE, () -> m.markDown(0, 6, 0));
        Edge.refuses(m, "sell", Edge.STATE, () -> m.sell(1, 3, 0));
        Edge.refuses(m, "release", Edge.STATE, () -> m.release(1));
        Edge.refuses(m, "bestPercent", Edge.ARGUMENT, () -> m.bestPercent(0, 13));
        Edge.refuses(m, "daysToSellOut", Edge.ARGUMENT, () -> m.daysToSellOut(0, 61));
        Check.same("nor the saved state", m.restoreState(), 1);
        MarkdownMarket none = market();
        Edge.refuses(none, "restoreState", Edge.STATE, none::restoreState);
    }

    private static void addBuyer() {
        Document.quote(25, "Adds a buyer, who arrives on the next day.");
        MarkdownMarket m = Check.market(TEXT);
        m.addBuyer(1, 30, 2, -1, 0, 0);
        Check.same("before the first day", m.buyer(5, 2), 0);
        m.run(1);
        Check.same("arrived on the first day", m.buyerState(5), 3);
        m.addBuyer(1, 1, 1, -1, 0, 0);
        Check.same("on a day", m.buyer(6, 2) * 10 + m.buyerState(6), 10);
        m.run(1);
        Check.same("the next day", m.buyerState(6), 1);
        Document.quote(25, "Returns number of the buyer.");
        Check.same("the next number", m.addBuyer(0, 1, 1, -1, 0, 0), 7);
        Check.same("and the next", m.addBuyer(0, 1, 1, -1, 0, 0), 8);
        Check.same("the first of all", Check.market("product a base 1 life 1;").addBuyer(0, 1, 1, -1, 0, 0), 0);
        Document.quote(25, PRODUCT);
        Check.same("the last product", m.buyer(m.addBuyer(1, 1, 1, -1, 0, 0), 0), 1);
        Document.quote(25, NO_PRODUCT);
        Edge.refuses(m, Edge.INDEX, 0, 1, product -> m.addBuyer(product, 1, 1, -1, 0, 0));
        Document.quote(25, "Throws IllegalStateException if there are 40 buyers");
        for (int i = 10; i < 40; i++) {
            Check.same("there is room", m.addBuyer(0, 1, 1, -1, 0, 0), i);
        }
        Edge.refuses(m, "a 41st", Edge.STATE, () -> m.addBuyer(0, 1, 1, -1, 0, 0));
        m.run(9);
        Edge.refuses(m, "though all have left", Edge.STATE, () -> m.addBuyer(0, 1, 1, -1, 0, 0));
    }

    private static void addBuyerRanges() {
        MarkdownMarket m = market();
        Document.quote(25, "value: 0 to 9999");
        Edge.takes(0, 9999, value -> m.addBuyer(1, value, 0, -1, 0, 0));
        Check.same("least", m.buyer(5, 1), 0);
        Check.same("most", m.buyer(6, 1), 9999);
        Document.quote(25, "patience: 0 to 30");
        Edge.takes(0, 30, patience -> m.addBuyer(1, 0, patience, -1, 0, 0));
        Check.same("least", m.buyer(7, 3), 2);
        Check.same("most", m.buyer(8, 3), 32);
        Document.quote(25, "strategic: the waiting cost, 0 to 99; -1 if the buyer is not strategic");
        // On day 1 a unit costs 1000, on day 2 900.
        MarkdownMarket w = Check.market("product a base 1000 life 9 markdown 2 90;batch 0 a 9;", 1);
        Edge.takes(-1, 99, strategic -> w.addBuyer(0, 1000, 1, strategic, 0, 0));
        w.addBuyer(0, 1000, 1, 0, 0, 0);
        w.run(1);
        Check.same("-1", w.buyerState(0), 3);
        Check.same("99", w.waitsFor(1), 2);
        Check.same("0", w.waitsFor(2), 2);
        Document.quote(25, "stale: the penalty for each day of age, 0 to 99");
        MarkdownMarket s = Check.market("product a base 1 life 60;batch 0 a 9;", 2);
        Edge.takes(0, 99, stale -> s.addBuyer(0, 100, 0, -1, stale, 0));
        Check.same("least", s.bestSurplus(0), 99);
        Check.same("most", s.bestSurplus(1), 0);
        Document.quote(25, "hold: for how many days the buyer reserves, 1 to 9; 0 if the buyer does not");
        Edge.takes(0, 9, hold -> s.addBuyer(0, 100, 0, -1, 0, hold));
        s.addBuyer(0, 100, 0, -1, 0, 1);
        s.run(1);
        Check.same("0", s.buyerState(2), 3);
        Check.same("9", s.hold(0, 4), 11);
        Check.same("1", s.hold(1, 4), 3);
        Document.quote(25, "Throws IllegalArgumentException if one of the other parameters is out of range");
        Edge.refuses(s, Edge.ARGUMENT, 0, 9999, value -> s.addBuyer(0, value, 0, -1, 0, 0));
        Edge.refuses(s, Edge.ARGUMENT, 0, 30, patience -> s.addBuyer(0, 0, patience, -1, 0, 0));
        Edge.refuses(s, Edge.ARGUMENT, -1, 99, strategic -> s.addBuyer(0, 0, 0, strategic, 0, 0));
        Edge.refuses(s, Edge.ARGUMENT, 0, 99, stale -> s.addBuyer(0, 0, 0, -1, stale, 0));
        Edge.refuses(s, Edge.ARGUMENT, 0, 9, hold -> s.addBuyer(0, 0, 0, -1, 0, hold));
    }

    private static void addBatch() {
        Document.quote(26, "Adds a batch, which is delivered on the next day.");
        MarkdownMarket m = Check.market(TEXT);
        m.addBatch(1, 50);
        Check.same("before the first day", m.figure(1, 0), 0);
        m.run(1);
        Check.same("on the first day", m.figure(1, 0), 52);
        Check.same("its day", m.batch(1, 1, 1), 0);
        m.addBatch(1, 1);
        Check.same("not yet", m.figure(1, 0), 52);
        m.run(1);
        Check.same("on the next day", m.batch(1, 2, 1), 1);
        Check.same("at age 0", m.batch(1, 2, 5), 0);
        Document.quote(26, "Returns number of the batch.");
        Check.same("the next number", m.addBatch(0, 1), 6);
        Check.same("and the next", m.addBatch(0, 1), 7);
        Check.same("the first of all", Check.market("product a base 1 life 1;").addBatch(0, 1), 0);
        Document.quote(26, "units: 1 to 50");
        Edge.takes(1, 50, units -> m.addBatch(0, units));
        m.run(1);
        Check.same("least", m.batch(0, 4, 2), 1);
        Check.same("most", m.batch(0, 5, 2), 50);
        Document.quote(26, "Throws IllegalArgumentException if units is out of range");
        Edge.refuses(m, Edge.ARGUMENT, 1, 50, units -> m.addBatch(0, units));
        Document.quote(26, PRODUCT);
        Edge.takes(0, 1, product -> m.addBatch(product, 1));
        Document.quote(26, NO_PRODUCT);
        Edge.refuses(m, Edge.INDEX, 0, 1, product -> m.addBatch(product, 1));
        Document.quote(26, "Throws IllegalStateException if there are 24 batches");
        for (int i = 12; i < 24; i++) {
            Check.same("there is room", m.addBatch(0, 1), i);
        }
        Edge.refuses(m, "a 25th", Edge.STATE, () -> m.addBatch(0, 1));
        m.run(60);
        Edge.refuses(m, "though all are discarded", Edge.STATE, () -> m.addBatch(0, 1));
    }

    private static void setBase() {
        Document.quote(27, "Sets the base price of a product.");
        MarkdownMarket m = market();
        m.setBase(0, 201);
        Check.same("base", m.figure(0, 7), 201);
        Check.same("price of a batch on the shelf", m.batch(0, 0, 4), 120);
        Check.same("other product", m.figure(1, 7), 20);
        Check.same("revenue", m.figure(0, 5), 10);
        m.setBase(1, 9000);
        Check.same("price of a hold", m.hold(0, 2), 20);
        Document.quote(27, "Returns the previous base price.");
        Check.same("set before", m.setBase(0, 7), 201);
        Check.same("the same again", m.setBase(0, 7), 7);
        Document.quote(27, "base: 1 to 9999");
        Edge.takes(1, 9999, base -> m.setBase(0, base));
        Check.same("most", m.setBase(0, 1), 9999);
        Check.same("least", m.setBase(0, 2), 1);
        Document.quote(27, "Throws IllegalArgumentException if base is out of range");
        Edge.refuses(m, Edge.ARGUMENT, 1, 9999, base -> m.setBase(0, base));
        Document.quote(27, PRODUCT);
        Edge.takes(0, 1, product -> m.setBase(product, 5));
        Document.quote(27, NO_PRODUCT);
        Edge.refuses(m, Edge.INDEX, 0, 1, product -> m.setBase(product, 6));
    }

    private static void setFee() {
        Document.quote(28, "Sets the fee for later holds.");
        MarkdownMarket m = Check.market("product a base 10 life 9;batch 0 a 9;buyer 0 a 10 hold 9;buyer 1 a 10 hold 9;"
                + "buyer 2 a 10 hold 9;", 1);
        m.setFee(100);
        Check.same("of the hold before", m.hold(0, 3) * 100 + m.buyer(0, 4), 101);
        m.run(1);
        Check.same("of the next hold", m.hold(1, 3) * 100 + m.buyer(1, 4), 1010);
        m.setFee(0);
        m.run(1);
        Check.same("of the hold after that", m.hold(2, 3) + m.buyer(2, 4), 0);
        Document.quote(28, "Returns the previous fee.");
        Check.same("set before", m.setFee(7), 0);
        Check.same("the same again", m.setFee(7), 7);
        Document.quote(28, "fee: 0 to 100");
        Edge.takes(0, 100, m::setFee);
        Check.same("most", m.setFee(0), 100);
        Check.same("least", m.setFee(2), 0);
        Document.quote(28, "Throws IllegalArgumentException if fee is out of range");
        Edge.refuses(m, Edge.ARGUMENT, 0, 100, m::setFee);
    }

    private static void ladder(MarkdownMarket m, int... due) {
        for (int i = 0; i < due.length; i += 2) {
            Check.same("at age " + due[i], m.percentAt(0, due[i]), due[i + 1]);
        }
    }

    private static void markDown() {
        Document.quote(29, "Adds a step to the ladder of a product, or changes the percentage of the step with this age.");
        MarkdownMarket m = market();
        m.markDown(0, 3, 40);
        ladder(m, 0, 100, 1, 60, 2, 60, 3, 40, 59, 40);
        m.markDown(0, 1, 70);
        ladder(m, 0, 100, 1, 70, 2, 70, 3, 40);
        m.markDown(0, 2, 90);
        ladder(m, 0, 100, 1, 70, 2, 90, 3, 40);
        Check.same("other product", m.percentAt(1, 59), 100);
        Check.same("price on the shelf", m.batch(0, 0, 4), 7);
        Document.quote(29, "Returns the number of steps of the ladder.");
        Check.same("one more", m.markDown(0, 59, 1), 4);
        Check.same("changed", m.markDown(0, 59, 2), 4);
        Check.same("five", m.markDown(0, 58, 3), 5);
        Check.same("five, changed", m.markDown(0, 1, 4), 5);
        Check.same("the first one", m.markDown(1, 1, 4), 1);
        ladder(m, 0, 100, 1, 4, 2, 90, 3, 40, 57, 40, 58, 3, 59, 2);
        Document.quote(29, "Throws IllegalStateException if there are 5 steps, none of them with this age");
        for (int age : new int[] {4, 30, 57}) {
            Edge.refuses(m, "age " + age, Edge.STATE, () -> m.markDown(0, age, 5));
        }
        for (int age : new int[] {1, 2, 3, 58, 59}) {
            Check.same("age " + age, m.markDown(0, age, 5), 5);
        }
        MarkdownMarket loaded = Check.market("product a base 10 life 5 markdown 1 90 markdown 2 80 markdown 3 70 markdown 4 60 "
                + "markdown 5 50;");
        Edge.refuses(loaded, "of a text", Edge.STATE, () -> loaded.markDown(0, 6, 5));
        loaded.removeStep(0, 5);
        Check.same("with room again", loaded.markDown(0, 6, 5), 5);
    }

    private static void markDownRanges() {
        MarkdownMarket m = market();
        Document.quote(29, "age: 1 to 59");
        Edge.takes(1, 59, age -> m.markDown(0, age, 30));
        ladder(m, 0, 100, 1, 30, 58, 30, 59, 30);
        Document.quote(29, "percent: 0 to 100");
        Edge.takes(0, 100, percent -> m.markDown(0, 59, percent));
        ladder(m, 58, 30, 59, 100);
        m.markDown(0, 1, 0);
        ladder(m, 1, 0, 58, 0);
        Document.quote(29, "Throws IllegalArgumentException if age or percent is out of range");
        Edge.refuses(m, Edge.ARGUMENT, 1, 59, age -> m.markDown(0, age, 5));
        Edge.refuses(m, Edge.ARGUMENT, 0, 100, percent -> m.markDown(0, 1, percent));
        Edge.refuses(m, Edge.ARGUMENT, 0, 100, percent -> m.markDown(0, 5, percent));
        Document.quote(29, PRODUCT);
        Edge.takes(0, 1, product -> m.markDown(product, 5, 5));
        Document.quote(29, NO_PRODUCT);
        Edge.refuses(m, Edge.INDEX, 0, 1, product -> m.markDown(product, 5, 5));
    }

    private static void removeStep() {
        Document.quote(30, "Removes a step from the ladder of a product.");
        MarkdownMarket m = Check.market("product a base 10 life 9 markdown 1 90 markdown 2 80 markdown 3 70 markdown 58 60 "
                + "markdown 59 50;product b base 10 life 9 markdown 1 50;batch 0 a 1;", 2);
        m.removeStep(0, 3);
        ladder(m, 0, 100, 1, 90, 2, 80, 3, 80, 57, 80, 58, 60, 59, 50);
        Check.same("price on the shelf", m.batch(0, 0, 4), 9);
        Document.quote(30, "age: the age of the step");
        m.removeStep(0, 1);
        ladder(m, 0, 100, 1, 100, 2, 80, 3, 80, 57, 80, 58, 60, 59, 50);
        Check.same("price on the shelf", m.batch(0, 0, 4), 10);
        Document.quote(30, "Returns true; false, with no change, if there is no step with this age.");
        for (int age : new int[] {0, 1, 3, 4, 57, 60, -1, Integer.MIN_VALUE, Integer.MAX_VALUE}) {
            String before = Picture.of(m);
            Check.same("age " + age, m.removeStep(0, age), false);
            Check.same("no change", Picture.of(m), before);
        }
        for (int age : new int[] {59, 2, 58}) {
            Check.same("age " + age, m.removeStep(0, age), true);
            Check.same("a second time", m.removeStep(0, age), false);
        }
        ladder(m, 0, 100, 59, 100);
        Check.same("of no ladder", m.removeStep(0, 1), false);
        for (int age = 1; age <= 5; age++) {
            Check.same("room for five", m.markDown(0, age, age), age);
        }
        stepsOnceRemoved();
        Document.quote(30, PRODUCT);
        Check.same("the last product", m.removeStep(1, 1), true);
        Document.quote(30, NO_PRODUCT);
        Edge.refuses(m, Edge.INDEX, 0, 1, product -> m.removeStep(product, 1));
    }

    private static void stepsOnceRemoved() {
        int[][] orders = {{5, 4, 3}, {3, 4, 5}, {1, 5, 3}, {4, 2, 1}};
        for (int[] order : orders) {
            for (int again : order) {
                MarkdownMarket m = Check.market("product a base 10 life 9;");
                for (int age = 1; age <= 5; age++) {
                    m.markDown(0, age, 10 * age);
                }
                for (int age : order) {
                    Check.same("removed", m.removeStep(0, age), true);
                }
                for (int age : order) {
                    Check.same("is no step any more", m.removeStep(0, age), false);
                }
                Check.same("one of them again", m.markDown(0, again, 99), 3);
                for (int age : order) {
                    Check.same("only that one", m.removeStep(0, age), age == again);
                }
            }
        }
    }

    private static void sell() {
        Document.quote(31, "Sells a free unit of a batch to a waiting buyer at a price of its own.");
        String text = "product a base 100 life 9;product b base 1 life 9;batch 0 a 2;batch 0 b 1;batch 1 a 1;batch 9 a 1;"
                + "buyer 0 a 60 patience 9 stale 9;buyer 0 a 99 patience 9 strategic 0 hold 1;buyer 0 a 100 hold 9;"
                + "buyer 1 a 50 patience 9;buyer 0 b 0 patience 9;buyer 9 a 99;buyer 0 a 99;";
        MarkdownMarket m = Check.market(text, 3);
        Check.same("surplus", m.sell(0, 0, 40), 60 - 40 - 18);
        Check.same("free", m.figure(0, 2) * 10 + m.figure(0, 3), 11);
        Check.same("bought", m.figure(0, 1), 1);
        Check.same("revenue", m.figure(0, 5), 40);
        Check.same("buyer", m.buyerState(0) * 1000 + m.buyer(0, 4) * 10 + m.buyer(0, 5), 3402);
        Check.same("batch", m.buyer(0, 6), 0);
        Check.same("waiting", m.waiting() * 100 + m.waitingBuyer(0) * 10 + m.waitingBuyer(2), 313);
        Document.quote(31, "This is an event of kind 1.");
        Check.same("latest event", Check.events(m).endsWith(" 2,1,0,40"), true);
        Document.quote(31, "Returns the surplus of the buyer: the value minus the price minus the penalty times the age of the "
                + "batch.");
        MarkdownMarket zero = Check.market(text, 3);
        Check.same("0", zero.sell(0, 2, 51), 0);
        MarkdownMarket above = Check.market("product a base 50 life 9 markdown 1 0;batch 0 a 2;"
                + "buyer 0 a 60 patience 1 strategic 0;", 1);
        Check.same("more than the price on the ladder", above.sell(0, 0, 57), 3);
        Document.quote(31, "price: 0 to 9999");
        Check.same("0", m.sell(3, 2, 0), 50);
        Check.same("nothing is paid", m.buyer(3, 4), 0);
        MarkdownMarket most = Check.market("product a base 9999 life 9 markdown 1 0;batch 0 a 2;"
                + "buyer 0 a 9999 patience 1 strategic 0;", 1);
        Check.same("9999", most.sell(0, 0, 9999), 0);
        Check.same("9999 is paid", most.buyer(0, 4), 9999);
        Document.quote(31, "Throws IllegalArgumentException if price is out of range");
        Edge.refuses(m, Edge.ARGUMENT, 0, 9999, price -> m.sell(1, 2, price));
    }

    private static void sellRefused() {
        String text = "product a base 100 life 9;product b base 100 life 9;batch 0 a 2;batch 0 b 1;batch 9 a 1;"
                + "buyer 9 a 99;buyer 0 a 50 patience 9 stale 5;buyer 0 a 100 hold 9;buyer 0 b 100;buyer 0 a 50;"
                + "buyer 0 b 50 patience 9;";
        MarkdownMarket m = Check.market(text, 2);
        Document.quote(31, "Throws IllegalStateException if the buyer is not waiting,");
        Edge.refuses(m, "not arrived", Edge.STATE, () -> m.sell(0, 0, 0));
        Edge.refuses(m, "holding", Edge.STATE, () -> m.sell(2, 0, 0));
        Edge.refuses(m, "bought", Edge.STATE, () -> m.sell(3, 1, 0));
        Edge.refuses(m, "left", Edge.STATE, () -> m.sell(4, 0, 0));
        Document.quote(31, "the batch is of another product or has no free unit,");
        Edge.refuses(m, "another product", Edge.STATE, () -> m.sell(1, 1, 0));
        Edge.refuses(m, "another product with free units", Edge.STATE, () -> m.sell(5, 0, 0));
        Edge.refuses(m, "sold out", Edge.STATE, () -> m.sell(5, 1, 0));
        Edge.refuses(m, "not delivered", Edge.STATE, () -> m.sell(1, 2, 0));
        Document.quote(31, "or the surplus would be negative");
        Edge.refuses(m, "-1", Edge.STATE, () -> m.sell(1, 0, 46));
        Edge.refuses(m, "far below", Edge.STATE, () -> m.sell(1, 0, 9999));
        Document.quote(31, "batch: number of a batch");
        Edge.takes(0, 2, m::discard);
        Edge.refuses(m, "only a held unit", Edge.STATE, () -> m.sell(1, 0, 0));
        MarkdownMarket other = Check.market(text, 2);
        Check.same("just 0", other.sell(1, 0, 45), 0);
        Document.quote(31, "buyer: number of a buyer");
        Check.same("the last buyer", Check.market(text + "batch 0 b 1;", 2).sell(5, 3, 50), 0);
        Document.quote(31, "Throws IndexOutOfBoundsException if buyer or batch is out of range");
        Edge.refuses(m, Edge.INDEX, 0, 5, buyer -> m.sell(buyer, 0, 0));
        Edge.refuses(m, Edge.INDEX, 0, 2, batch -> m.sell(1, batch, 0));
        Edge.refuses(m, Edge.INDEX, 0, 2, batch -> m.sell(0, batch, -1));
    }

    private static void release() {
        Document.quote(32, "Releases a hold: the buyer gets the deposit back and leaves, and the unit is free again.");
        MarkdownMarket m = Check.market("fee 100;product a base 9999 life 9;batch 0 a 4;buyer 0 a 9999 patience 9 hold 9;"
                + "buyer 0 a 9999 hold 9;buyer 0 a 9999 hold 1;buyer 0 a 9998 patience 9;buyer 9 a 9999;", 1);
        m.setFee(0);
        m.release(1);
        Check.same("paid", m.buyer(1, 4), 0);
        Check.same("state", m.buyerState(1) * 10 + m.buyer(1, 5), 40);
        Check.same("batch", m.buyer(1, 6), -1);
        Check.same("unit", m.figure(0, 2) * 10 + m.figure(0, 3), 22);
        Check.same("holds", m.holds() * 100 + m.hold(0, 0) * 10 + m.hold(1, 0), 202);
        Check.same("forfeited", m.figure(0, 6) + m.income(), 0);
        Check.same("left", m.figure(0, 10), 1);
        Document.quote(32, "This is an event of kind 6.");
        events(m, "0,0,0,4 0,2,0,9999 0,2,1,9999 0,2,2,9999 0,6,1,9999");
        Document.quote(32, "Returns the deposit.");
        Check.same("of the fee at the time of the hold", m.release(0), 9999);
        MarkdownMarket free = Check.market("fee 0;product a base 9 life 9;batch 0 a 1;buyer 0 a 9 hold 9;", 1);
        Check.same("a deposit of 0", free.release(0), 0);
        Document.quote(32, "Throws IllegalStateException if the buyer is not holding");
        Edge.refuses(m, "released before", Edge.STATE, () -> m.release(1));
        Edge.refuses(m, "waiting", Edge.STATE, () -> m.release(3));
        Edge.refuses(m, "not arrived", Edge.STATE, () -> m.release(4));
        m.run(1);
        Edge.refuses(m, "bought", Edge.STATE, () -> m.release(2));
        Document.quote(32, "buyer: number of a buyer");
        m.addBuyer(0, 9999, 0, -1, 0, 9);
        m.run(1);
        Check.same("the last", m.release(5), 0);
        Document.quote(32, "Throws IndexOutOfBoundsException if buyer is out of range");
        Edge.refuses(m, Edge.INDEX, 0, 5, m::release);
    }

    private static void discard() {
        Document.quote(33, "Discards the free units of a batch.");
        MarkdownMarket m = Check.market("product a base 10 life 3;batch 0 a 50;batch 0 a 1;batch 9 a 7;buyer 0 a 10 hold 1;", 1);
        Check.same("all but the held one", m.discard(0), 49);
        Check.same("discarded", m.figure(0, 4), 49);
        Check.same("free", m.figure(0, 2) * 10 + m.figure(0, 3), 11);
        events(m, "0,0,0,50 0,0,1,1 0,2,0,10 0,5,0,49");
        Document.quote(33, "Returns the number of units.");
        Check.same("none", m.discard(0), 0);
        Check.same("none of a batch to come", m.discard(2), 0);
        events(m, "0,0,0,50 0,0,1,1 0,2,0,10 0,5,0,49");
        Check.same("the hold goes on", m.run(1), 1);
        Check.same("none of a batch that is gone", m.discard(0), 0);
        m.run(8);
        Check.same("the batch comes all the same", m.figure(0, 2), 7);
        Check.same("and is not counted as discarded", m.figure(0, 4), 50);
        Document.quote(33, "batch: number of a batch");
        Check.same("the last batch", m.discard(2), 7);
        Document.quote(33, "Throws IndexOutOfBoundsException if batch is out of range");
        Edge.refuses(m, Edge.INDEX, 0, 2, m::discard);
        MarkdownMarket none = new MarkdownMarket();
        Edge.refuses(none, "without batches", Edge.INDEX, () -> none.discard(0));
    }
}
