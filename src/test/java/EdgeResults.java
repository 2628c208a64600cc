/** Totals, the optimum in hindsight, and promises 34 to 47, sentence by sentence. */
final class EdgeResults {
    private static final String NO_PRODUCT = "Throws IndexOutOfBoundsException if product is out of range";
    private static final String PRODUCT = "product: number of a product";

    private EdgeResults() {
    }

    static void test() {
        totals();
        fits();
        fitsNot();
        assignments();
        fixedPrice();
        future();
        incomeAndWelfare();
        hindsight();
        efficiency();
        bestFixedPrice();
        fixedResult();
        regret();
        bestPercent();
        bestPercentLimits();
        daysToSellOut();
        meanSoldAge();
        wasteShare();
        demand();
        expiring();
    }

    private static void quote(String words) {
        Document.quote(Document.DESCRIPTION, words);
    }

    private static void products(int promise, MarkdownMarket m, Edge.Call call) {
        Document.quote(promise, PRODUCT);
        Edge.takes(0, m.products() - 1, call);
        Document.quote(promise, NO_PRODUCT);
        Edge.refuses(m, Edge.INDEX, 0, m.products() - 1, call);
    }

    private static void totals() {
        quote("Totals. The revenue of a product is the sum of the prices at which its units were bought.");
        MarkdownMarket m = Check.market("fee 50;product a base 41 life 9 markdown 1 50;product b base 7 life 9;batch 0 a 9;"
                + "batch 0 b 9;buyer 0 a 41;buyer 0 a 41 hold 1;buyer 1 a 20;buyer 0 a 19 patience 9;buyer 0 b 7;"
                + "buyer 0 a 50 hold 9;");
        Check.same("none", m.figure(0, 5), 0);
        m.run(2);
        // The holder cancels, as a free unit now leaves 21 and the held one 20.
        Check.same("three prices", m.figure(0, 5), 41 + 20 + 20);
        m.sell(3, 0, 1);
        Check.same("and a price of its own", m.figure(0, 5), 41 + 20 + 20 + 1);
        Check.same("of the other product", m.figure(1, 5), 7);
        quote("The forfeited deposits of a product are not part of its revenue.");
        Check.same("forfeited", m.figure(0, 6), 20);
        Check.same("of the other product", m.figure(1, 6), 0);
        quote("The income is the sum of the revenues and the forfeited deposits of all products.");
        Check.same("all, but the deposit of a hold that goes on", m.income(), 82 + 20 + 7);
        m.release(5);
        Check.same("nor a deposit that is given back", m.income(), 109);
        Check.same("of no product", new MarkdownMarket().income(), 0);
        quote("The welfare is the sum of the values of the buyers who bought.");
        Check.same("not of holders, nor of those who left", m.welfare(), 41 + 41 + 20 + 19 + 7);
        MarkdownMarket zero = Check.market("product a base 1 life 9 markdown 1 0;batch 0 a 9;buyer 1 a 0;buyer 1 a 9999;", 2);
        Check.same("0 and 9999", zero.welfare(), 9999);
        Check.same("of nobody", new MarkdownMarket().welfare(), 0);
    }

    private static void fit(String text, int days, int due) {
        MarkdownMarket m = Check.market("product a base 9999 life 3;product b base 9999 life 60;" + text);
        for (int i = 0; i < days; i++) {
            m.run(1);
        }
        Check.same("served, " + text, m.mostServed(), due);
        Check.same("value, " + text, m.hindsight(), 7 * due);
    }

    private static void fits() {
        quote("Hindsight. A buyer who has arrived and a unit that was delivered (whatever became of it) fit if the product is "
                + "the same");
        fit("batch 0 a 1;buyer 0 a 7;", 1, 1);
        fit("batch 0 a 1;buyer 0 b 7;", 1, 0);
        fit("batch 0 a 1;buyer 1 a 7;", 1, 0);
        fit("batch 0 a 1;buyer 1 a 7;", 2, 1);
        fit("batch 1 a 1;buyer 0 a 7 patience 1;", 1, 0);
        fit("batch 1 a 1;buyer 0 a 7 patience 1;", 2, 1);
        fit("batch 0 a 1;buyer 0 a 7;", 60, 1);
        MarkdownMarket m = Check.market("fee 0;product a base 7 life 3;batch 0 a 5;buyer 0 a 7;buyer 0 a 7 hold 9;"
                + "buyer 0 a 7 hold 9;buyer 0 a 6 patience 9;", 1);
        m.sell(3, 0, 1);
        m.release(1);
        m.discard(0);
        Check.same("units bought, held, freed and discarded, and buyers in each state", m.mostServed(), 4);
        m.run(3);
        Check.same("units discarded as they were held", m.mostServed(), 4);
        quote("and there is a day from the arrival to the leaving day of the buyer on which the age of the unit is at least 0 and "
                + "less than the shelf life.");
        // On the shelf on the days 3, 4 and 5.
        fit("batch 3 a 1;buyer 2 a 7;", 9, 0);
        fit("batch 3 a 1;buyer 2 a 7 patience 1;", 9, 1);
        fit("batch 3 a 1;buyer 0 a 7 patience 2;", 9, 0);
        fit("batch 3 a 1;buyer 0 a 7 patience 3;", 9, 1);
        fit("batch 3 a 1;buyer 0 a 7 patience 30;", 9, 1);
        fit("batch 3 a 1;buyer 5 a 7;", 9, 1);
        fit("batch 3 a 1;buyer 5 a 7 patience 30;", 9, 1);
        fit("batch 3 a 1;buyer 6 a 7;", 9, 0);
        fit("batch 3 a 1;buyer 6 a 7 patience 30;", 9, 0);
        fit("batch 0 b 1;buyer 59 b 7;", 60, 1);
        fit("batch 0 b 1;buyer 60 b 7;", 61, 0);
    }

    private static void fitsNot() {
        quote("whatever became of it");
        MarkdownMarket m = Check.market("product a base 9 life 1;batch 0 a 1;buyer 0 a 9;", 1);
        Check.same("bought by this buyer", m.hindsight(), 9);
        m.run(60);
        Check.same("60 days later", m.hindsight(), 9);
        quote("on which the age of the unit is at least 0 and less than the shelf life.");
        fit("product c base 1 life 1;batch 1 c 1;buyer 0 c 7;buyer 1 c 7;buyer 2 c 7;", 9, 1);
        fit("product c base 1 life 1;batch 1 c 9;buyer 0 c 7;buyer 1 c 7;buyer 2 c 7;", 9, 1);
        fit("product c base 1 life 1;batch 1 c 9;buyer 0 c 7 patience 1;buyer 1 c 7;buyer 2 c 7;", 9, 2);
    }

    private static void assignments() {
        quote("An assignment gives to each of some buyers a unit that fits, different units to different buyers.");
        fit("batch 0 a 1;buyer 0 a 7;buyer 0 a 7;", 1, 1);
        fit("batch 0 a 2;buyer 0 a 7;buyer 0 a 7;", 1, 2);
        fit("batch 0 a 2;buyer 0 a 7;", 1, 1);
        fit("batch 0 a 1;batch 0 b 1;buyer 0 a 7;buyer 0 a 7;buyer 1 b 7;", 1, 1);
        fit("batch 0 a 1;batch 0 b 1;batch 0 b 1;buyer 0 b 7;buyer 0 a 7;buyer 0 a 7;", 1, 2);
        fit("batch 0 b 40;" + "buyer 0 b 7;".repeat(40), 1, 40);
        fit("batch 0 b 39;" + "buyer 0 b 7;".repeat(40), 1, 39);
        fit("batch 0 b 1;".repeat(24) + "buyer 0 b 7;".repeat(40), 1, 24);
        // Each unit is on the shelf for three days, so that each buyer has to give way to the next.
        fit("batch 0 a 1;batch 3 a 1;batch 6 a 1;buyer 0 a 7 patience 3;buyer 3 a 7 patience 3;buyer 6 a 7;", 9, 3);
        fit("batch 0 a 1;batch 3 a 1;batch 6 a 1;buyer 0 a 7 patience 9;buyer 0 a 7 patience 3;buyer 0 a 7;", 9, 3);
        quote("The optimum in hindsight is the greatest sum of values of the buyers of an assignment.");
        MarkdownMarket m = Check.market("product a base 9 life 1;batch 0 a 1;batch 1 a 1;buyer 0 a 5 patience 1;buyer 0 a 9;"
                + "buyer 1 a 6;buyer 0 a 0 patience 1;", 2);
        Check.same("9 and 6", m.hindsight(), 15);
        // Nothing fits the buyer of the greatest value, who must take no unit from the others.
        MarkdownMarket late = Check.market("product a base 99 life 1;batch 0 a 2;buyer 0 a 5;buyer 1 a 9;buyer 0 a 4;", 2);
        Check.same("5 and 4", late.hindsight() * 10 + late.mostServed(), 92);
        Check.same("without buyers", Check.market("product a base 9 life 1;batch 0 a 1;", 1).hindsight(), 0);
        Check.same("without units", Check.market("product a base 9 life 1;buyer 0 a 9;", 1).hindsight(), 0);
        MarkdownMarket most = Check.market("product a base 1 life 1;batch 0 a 40;" + "buyer 0 a 9999;".repeat(40), 1);
        Check.same("greatest of all", most.hindsight(), 399960);
    }

    private static void fixedPrice() {
        quote("The fixed price result of a product for a price is this price times the greatest number of buyers of an "
                + "assignment of this product in which each buyer has a value of at least the price.");
        MarkdownMarket m = Check.market("product a base 99 life 9;product b base 99 life 9;batch 0 a 2;batch 0 b 9;buyer 0 a 5;"
                + "buyer 0 a 6;buyer 0 a 7;buyer 0 b 9;", 1);
        int[] due = {0, 2, 4, 6, 8, 10, 12, 7, 0};
        for (int price = 1; price < due.length; price++) {
            Check.same("for " + price, m.fixedResult(0, price), due[price]);
        }
        quote("The best fixed price is, of the values (1 or more) of the buyers who have arrived for the product,");
        Check.same("6", m.bestFixedPrice(0), 6);
        String values = "product a base 99 life 9;product b base 99 life 9;batch 0 a 9;buyer 0 b 9;buyer 0 a 0;";
        Check.same("0 is none", Check.market(values, 1).bestFixedPrice(0), -1);
        Check.same("1 is one", Check.market(values + "buyer 0 a 1;", 1).bestFixedPrice(0), 1);
        Check.same("9999 is one", Check.market(values + "buyer 0 a 9999;", 1).bestFixedPrice(0), 9999);
        Check.same("not one to come", Check.market(values + "buyer 1 a 1;", 1).bestFixedPrice(0), -1);
        quote("the one with the greatest fixed price result, the smallest one on a tie.");
        String tie = "product a base 99 life 9;batch 0 a 9;buyer 0 a 6;buyer 0 a 3;buyer 0 a 2;";
        Check.same("6, 6 and 6", Check.market(tie, 1).bestFixedPrice(0), 2);
        Check.same("6, 8 and 6", Check.market(tie.replace("a 3", "a 4"), 1).bestFixedPrice(0), 4);
        Check.same("7, 6 and 6", Check.market(tie.replace("a 6", "a 7"), 1).bestFixedPrice(0), 7);
        Check.same("0, 0 and 0", Check.market(tie.replace("batch 0", "batch 1"), 1).bestFixedPrice(0), 2);
    }

    private static void future() {
        quote("Questions about the future simulate a copy of the whole state and change nothing.");
        String text = "fee 20;product a base 10 life 2 markdown 1 50;product b base 9 life 9;batch 0 a 3;batch 1 a 3;"
                + "batch 0 b 1;buyer 0 a 10 hold 1;buyer 0 a 9 patience 3 strategic 1;buyer 2 a 20;buyer 1 b 9;";
        MarkdownMarket m = Check.market(text, 1);
        m.saveState();
        m.printReport();
        Check.load(m, "fee 1;$");
        Check.put(m, "fee 1;");
        String before = Picture.of(m) + Picture.ofTheRest(m);
        for (int product = 0; product < 2; product++) {
            m.bestPercent(product, 12);
            m.bestPercent(product, 1);
            m.daysToSellOut(product, 60);
            m.daysToSellOut(product, 1);
            Check.same("nothing is changed", Picture.of(m) + Picture.ofTheRest(m), before);
        }
        Edge.goTheSameWay(m, Check.market(text, 1), 5);
        m.restoreState();
        Check.same("the saved state is the same", Picture.of(m) + Picture.ofTheRest(m), before);
        futureEachDay();
    }

    /** Of two markets one is asked each day, the other one on one day only: their answers are the same. */
    private static void futureEachDay() {
        String text = "fee 35;product a base 100 life 4 markdown 1 80 markdown 3 50;product b base 9 life 60;batch 1 a 3;"
                + "batch 2 b 2;batch 4 a 6;buyer 1 a 110 stale 25 hold 1;buyer 1 a 100 patience 6 strategic 3;"
                + "buyer 2 a 60 patience 9 hold 2;buyer 2 a 120 hold 9;buyer 3 b 9 hold 3;buyer 4 a 130 stale 40 hold 2;"
                + "buyer 6 a 100 hold 4;buyer 7 a 45 patience 9;";
        MarkdownMarket often = Check.market(text);
        for (int days = 1; days <= 12; days++) {
            MarkdownMarket once = Check.market(text, days);
            Picture.ofTheFuture(often);
            often.run(1);
            Check.same("after days: " + days, Picture.ofTheFuture(often), Picture.ofTheFuture(once));
            often.setFee(days);
            once.setFee(days);
            often.setBase(0, 60 + 5 * days);
            once.setBase(0, 60 + 5 * days);
            Check.same("with other prices", Picture.ofTheFuture(often), Picture.ofTheFuture(once));
            often.setFee(35);
            often.setBase(0, 100);
        }
    }

    private static void incomeAndWelfare() {
        Document.quote(34, "Returns the income. Returns the income.");
        MarkdownMarket m = Check.market("fee 100;product a base 9999 life 9;batch 0 a 40;" + "buyer 0 a 9999;".repeat(20)
                + "buyer 0 a 9999 hold 1;".repeat(20));
        Check.same("before the first day", m.income(), 0);
        m.run(1);
        Check.same("20 prices", m.income(), 199980);
        m.run(1);
        Check.same("40 prices", m.income(), 399960);
        Check.same("0", Check.market("product a base 1 life 9 markdown 1 0;batch 0 a 1;buyer 1 a 5;", 2).income(), 0);
        MarkdownMarket lost = Check.market("fee 100;product a base 9999 life 9 markdown 1 0;batch 0 a 1;"
                + "buyer 0 a 9999 stale 99 hold 9;", 1);
        Check.same("a deposit of a hold", lost.income(), 0);
        MarkdownMarket one = Check.market("fee 1;product a base 100 life 9;batch 0 a 1;buyer 0 a 100 stale 2 hold 1;", 2);
        Check.same("1 forfeited", one.income(), 1);
        Document.quote(35, "Returns the welfare. Returns the welfare.");
        Check.same("40 values", m.welfare(), 399960);
        Check.same("of a buyer whose deposit is forfeited", one.welfare(), 0);
        Check.same("of a holder", lost.welfare(), 0);
    }

    private static void hindsight() {
        Document.quote(36, "Returns the optimum in hindsight. Returns the sum of values.");
        Check.same("of a new object", new MarkdownMarket().hindsight(), 0);
        MarkdownMarket m = Check.market("product a base 99 life 1;batch 0 a 1;batch 2 a 1;buyer 0 a 9 patience 2;buyer 0 a 4;"
                + "buyer 1 a 8 patience 1;");
        int[] due = {0, 9, 9, 9 + 8};
        for (int sum : due) {
            Check.same("on day " + m.day(), m.hindsight(), sum);
            m.run(1);
        }
        Document.quote(37, "Returns the greatest number of buyers of an assignment. Returns the number of buyers.");
        Check.same("of a new object", new MarkdownMarket().mostServed(), 0);
        Check.same("2 of 3", m.mostServed(), 2);
        MarkdownMarket zero = Check.market("product a base 9999 life 1;batch 0 a 2;buyer 0 a 0;buyer 0 a 0;buyer 0 a 0;", 1);
        Check.same("buyers of no value", zero.mostServed() * 10 + zero.hindsight(), 20);
    }

    private static void efficiency() {
        Document.quote(38, "Returns the efficiency: the welfare divided by the optimum in hindsight, both converted to double.");
        MarkdownMarket m = Check.market("product a base 5 life 9;batch 0 a 1;buyer 0 a 5;buyer 0 a 9999;buyer 0 a 7;", 1);
        Check.same("5 of 9999", m.efficiency(), 5.0 / 9999.0);
        Check.same("0 of 4", Check.market("product a base 5 life 9;batch 0 a 1;buyer 0 a 4;", 1).efficiency(), 0.0);
        Check.same("all", Check.market("product a base 5 life 9;batch 0 a 3;buyer 0 a 5;buyer 0 a 9999;", 1).efficiency(), 1.0);
        Document.quote(38, "Returns the efficiency; 1 if the optimum is 0.");
        Check.same("of a new object", new MarkdownMarket().efficiency(), 1.0);
        Check.same("nobody has arrived", Check.market("product a base 5 life 9;batch 0 a 1;buyer 1 a 9;", 1).efficiency(), 1.0);
        Check.same("no value", Check.market("product a base 1 life 9 markdown 1 0;batch 0 a 1;buyer 1 a 0;", 2).efficiency(), 1.0);
    }

    private static void bestFixedPrice() {
        Document.quote(39, "Returns the best fixed price of a product.");
        MarkdownMarket m = Check.market("product a base 99 life 9;product b base 99 life 9;batch 0 a 3;batch 0 b 1;buyer 0 a 10;"
                + "buyer 0 a 7;buyer 0 a 5;buyer 0 a 4;buyer 0 b 3;buyer 0 b 8;buyer 1 b 0;", 2);
        Check.same("10, 14 and 15", m.bestFixedPrice(0), 5);
        Check.same("other product", m.bestFixedPrice(1), 8);
        Document.quote(39, "Returns the price; -1 if no buyer with a value of 1 or more has arrived for it.");
        MarkdownMarket none = Check.market("product a base 99 life 9;batch 0 a 3;buyer 0 a 0;buyer 1 a 1;buyer 2 a 3;");
        int[] due = {-1, -1, 1, 3};
        for (int price : due) {
            Check.same("on day " + none.day(), none.bestFixedPrice(0), price);
            none.run(1);
        }
        products(39, m, m::bestFixedPrice);
    }

    private static void fixedResult() {
        Document.quote(40, "Returns the fixed price result of a product for a price.");
        MarkdownMarket m = Check.market("product a base 99 life 9;product b base 99 life 9;batch 0 a 40;" + "buyer 0 a 9999;".repeat(36)
                + "buyer 0 b 5;", 1);
        Check.same("36 of 36", m.fixedResult(0, 9998), 36 * 9998);
        Document.quote(40, "price: 1 to 9999");
        Check.same("greatest", m.fixedResult(0, 9999), 36 * 9999);
        Check.same("least", m.fixedResult(0, 1), 36);
        Document.quote(40, "Returns the result.");
        Check.same("without units", m.fixedResult(1, 5), 0);
        Check.same("before the first day", Check.market("product a base 9 life 9;batch 0 a 1;buyer 0 a 5;").fixedResult(0, 5), 0);
        Document.quote(40, "Throws IllegalArgumentException if price is out of range");
        Edge.refuses(m, Edge.ARGUMENT, 1, 9999, price -> m.fixedResult(0, price));
        products(40, m, product -> m.fixedResult(product, 1));
        Edge.refuses(m, Edge.INDEX, 0, 1, product -> m.fixedResult(product, 0));
    }

    private static void regret() {
        Document.quote(41, "Returns the regret: the sum over all products of the fixed price result for the best fixed price (0 "
                + "without one), minus the income.");
        Check.same("of a new object", new MarkdownMarket().regret(), 0);
        MarkdownMarket m = Check.market("product a base 40 life 9;product b base 9 life 9;product c base 1 life 9;product d base 1 "
                + "life 9;batch 0 a 2;batch 0 b 2;batch 0 c 1;buyer 0 a 60;buyer 0 a 50;buyer 0 b 8;buyer 0 b 8;buyer 0 c 0;"
                + "buyer 0 d 7;buyer 1 a 9999;", 1);
        Check.same("100 and 16, less 80", m.regret(), 36);
        Document.quote(41, "Returns the regret, which can be negative.");
        MarkdownMarket less = Check.market("product a base 60 life 9 markdown 1 50;batch 0 a 2;buyer 0 a 60;buyer 1 a 30;", 2);
        Check.same("60, less 90", less.regret(), -30);
        MarkdownMarket paid = Check.market("fee 100;product a base 60 life 9;batch 1 a 1;batch 2 a 1;"
                + "buyer 1 a 60 stale 99 hold 1;", 3);
        Check.same("60, less 60 and a forfeited deposit of 60", paid.regret(), -60);
        Check.same("0", Check.market("product a base 60 life 9;batch 0 a 1;buyer 0 a 60;", 1).regret(), 0);
    }

    private static int best(String text, int days) {
        return Check.market("product a base 100 life 9;product b base 100 life 9;" + text).bestPercent(0, days);
    }

    private static void bestPercent() {
        Document.quote(42, "Finds the best percentage by which the base price of a product could be changed:");
        Check.same("of this product", best("batch 0 a 9;batch 0 b 9;buyer 0 a 130;buyer 0 b 70;", 1), 130);
        Check.same("with a ladder", best("product c base 1 life 1;batch 0 a 9;buyer 0 a 50;", 1), 50);
        Document.quote(42, "The income after some days is simulated for each of the percentages 50, 60, 70 and so on up to 150.");
        for (int percent = 50; percent <= 150; percent += 10) {
            Check.same("of " + percent, best("batch 0 a 1;buyer 0 a " + percent + ";", 1), percent);
            Check.same("not of one more", best("batch 0 a 1;buyer 0 a " + (percent + 9) + ";", 1), percent);
        }
        Check.same("none of less", best("batch 0 a 1;buyer 0 a 49;", 1), 50);
        Check.same("none of more", best("batch 0 a 1;buyer 0 a 9999;", 1), 150);
        // For 50 percent the holder cancels and pays 40 and 50, and two others 50 each; for 60 it is 100 and 60.
        MarkdownMarket lost = Check.market("fee 40;product a base 100 life 9;batch 0 a 4;buyer 0 a 110 hold 1;"
                + "buyer 1 a 55;buyer 1 a 60;", 1);
        Check.same("with a forfeited deposit", lost.bestPercent(0, 1), 50);
        Document.quote(42, "Returns the percentage with the greatest income, the smallest one on a tie.");
        Check.same("100 and 100", best("batch 0 a 2;buyer 0 a 100;buyer 0 a 50;", 1), 50);
        Check.same("100 and 110", best("batch 0 a 2;buyer 0 a 110;buyer 0 a 50;", 1), 110);
        Check.same("100 and 120", best("batch 0 a 2;buyer 0 a 100;buyer 0 a 60;", 1), 60);
        Check.same("120 and 130", best("batch 0 a 2;buyer 0 a 130;buyer 0 a 60;", 1), 130);
        Check.same("always 0", best("batch 0 a 2;", 12), 50);
        Document.quote(42, "days: 1 to 12");
        Check.same("1", best("batch 0 a 9;buyer 0 a 60;buyer 1 a 150;buyer 1 a 150;", 1), 60);
        Check.same("2", best("batch 0 a 9;buyer 0 a 60;buyer 1 a 150;buyer 1 a 150;", 2), 150);
        Check.same("11", best("batch 0 a 1;batch 11 a 9;buyer 0 a 60;buyer 11 a 150;buyer 11 a 150;", 11), 60);
        Check.same("12", best("batch 0 a 1;batch 11 a 9;buyer 0 a 60;buyer 11 a 150;buyer 11 a 150;", 12), 150);
    }

    private static void bestPercentLimits() {
        Document.quote(42, "the base price would be multiplied by the percentage, divided by 100 and rounded down, to at least 1 "
                + "and at most 9999.");
        MarkdownMarket least = Check.market("product a base 1 life 9;batch 0 a 9;buyer 0 a 1;");
        Check.same("0 would be 1", least.bestPercent(0, 1), 50);
        MarkdownMarket down = Check.market("product a base 3 life 9;batch 0 a 9;buyer 0 a 9;");
        // 1 1 2 2 2 3 3 3 3 4 4
        Check.same("4", down.bestPercent(0, 1), 140);
        Check.same("2", Check.market("product a base 3 life 9;batch 0 a 9;buyer 0 a 2;").bestPercent(0, 1), 70);
        Check.same("3", Check.market("product a base 3 life 9;batch 0 a 9;buyer 0 a 3;").bestPercent(0, 1), 100);
        MarkdownMarket most = Check.market("product a base 9999 life 9;batch 0 a 9;buyer 0 a 9999;");
        Check.same("9999 of 100 percent", most.bestPercent(0, 1), 100);
        most.setBase(0, 9090);
        Check.same("9999 of 110 percent", most.bestPercent(0, 1), 110);
        most.setBase(0, 8332);
        Check.same("9998 of 120 percent", most.bestPercent(0, 1), 130);
        most.setBase(0, 8333);
        Check.same("9999 of 120 percent", most.bestPercent(0, 1), 120);
        most.setBase(0, 8334);
        Check.same("10000 of 120 percent", most.bestPercent(0, 1), 120);
        MarkdownMarket m = Check.market("product a base 100 life 9;product b base 100 life 9;batch 0 b 1;buyer 0 b 70;");
        Check.same("the last product", m.bestPercent(1, 12), 70);
        Document.quote(42, "Throws IllegalArgumentException if days is out of range");
        Edge.refuses(m, Edge.ARGUMENT, 1, 12, days -> m.bestPercent(0, days));
        products(42, m, product -> m.bestPercent(product, 1));
        Edge.refuses(m, Edge.INDEX, 0, 1, product -> m.bestPercent(product, 13));
    }

    private static void daysToSellOut() {
        Document.quote(43, "Finds how many days from now on it takes until no unit of a product is free or held at the end of a day.");
        MarkdownMarket m = Check.market("product a base 10 life 3;product b base 10 life 60;batch 0 a 2;batch 2 a 1;batch 0 b 1;"
                + "buyer 1 a 10;buyer 1 a 10 hold 9;", 1);
        Check.same("discarded after a hold", m.daysToSellOut(0, 60), 5);
        Document.quote(43, "limit: the greatest number of days to simulate, 1 to 60");
        Check.same("60 days", m.daysToSellOut(1, 60), 60);
        Check.same("5 days", m.daysToSellOut(0, 5), 5);
        MarkdownMarket next = Check.market("product a base 10 life 1;batch 0 a 2;", 1);
        Check.same("1 day", next.daysToSellOut(0, 1), 1);
        Document.quote(43, "Returns the number of days, 0 if there is none now;");
        MarkdownMarket none = Check.market("product a base 10 life 9;batch 0 a 2;batch 2 a 1;buyer 1 a 10;buyer 1 a 10;");
        Check.same("nothing is delivered", none.daysToSellOut(0, 60), 0);
        none.run(1);
        Check.same("all will be bought", none.daysToSellOut(0, 60), 1);
        none.run(1);
        Check.same("all is bought", none.daysToSellOut(0, 1), 0);
        MarkdownMarket within = Check.market("product a base 10 life 1;batch 0 a 1;batch 1 a 1;buyer 1 a 10;", 1);
        Check.same("at the end of a day", within.daysToSellOut(0, 9), 1);
        Document.quote(43, "-1 if it is not so after any of these days.");
        Check.same("59 days", m.daysToSellOut(1, 59), -1);
        Check.same("4 days", m.daysToSellOut(0, 4), -1);
        Check.same("1 day", m.daysToSellOut(0, 1), -1);
        MarkdownMarket more = Check.market("product a base 10 life 1;batch 0 a 2;batch 1 a 1;", 1);
        Check.same("with a delivery on that day", more.daysToSellOut(0, 1), -1);
        Document.quote(43, "Throws IllegalArgumentException if limit is out of range");
        Edge.refuses(m, Edge.ARGUMENT, 1, 60, limit -> m.daysToSellOut(0, limit));
        Edge.refuses(none, "though there is none now", Edge.ARGUMENT, () -> none.daysToSellOut(0, 0));
        products(43, m, product -> m.daysToSellOut(product, 1));
        Edge.refuses(m, Edge.INDEX, 0, 1, product -> m.daysToSellOut(product, 0));
    }

    private static void meanSoldAge() {
        Document.quote(44, "Returns the mean age at which the units of a product were bought: the sum of the ages of the batches on "
                + "the days on which the units were bought, divided by the number of these units, both converted to float.");
        MarkdownMarket m = Check.market("product a base 10 life 60;product b base 10 life 9;batch 1 a 9;batch 0 b 9;buyer 1 a 10;"
                + "buyer 2 a 10;buyer 1 a 10 hold 1;buyer 60 a 10;buyer 1 b 10;buyer 0 a 9 patience 30;", 3);
        Check.same("0, 1 and 1", m.meanSoldAge(0), 2f / 3f);
        Check.same("the other product", m.meanSoldAge(1), 1f);
        m.sell(5, 0, 5);
        Check.same("0, 1, 1 and 1", m.meanSoldAge(0), 3f / 4f);
        m.run(58);
        Check.same("and 59", m.meanSoldAge(0), 62f / 5f);
        MarkdownMarket swap = Check.market("product a base 10 life 60;batch 0 a 1;batch 2 a 1;buyer 0 a 20 stale 9 hold 2;", 3);
        Check.same("of the unit that is bought", swap.meanSoldAge(0), 0f);
        Check.same("and it is one", swap.figure(0, 1), 1);
        Document.quote(44, "Returns the mean age; 0 if no unit was bought.");
        Check.same("a unit at age 0", Check.market("product a base 1 life 9;batch 0 a 1;buyer 0 a 1;", 1).meanSoldAge(0), 0f);
        Check.same("a held unit", Check.market("product a base 1 life 9;batch 0 a 1;buyer 0 a 1 hold 9;", 5).meanSoldAge(0), 0f);
        Check.same("no unit", Check.market("product a base 1 life 9;").meanSoldAge(0), 0f);
        products(44, m, m::meanSoldAge);
    }

    private static void wasteShare() {
        Document.quote(45, "Returns the share of the delivered units of a product that were discarded, both converted to float.");
        MarkdownMarket m = Check.market("product a base 10 life 1;product b base 10 life 9;batch 0 a 3;batch 1 a 4;batch 0 b 1;"
                + "batch 9 b 2;buyer 0 a 10;buyer 1 a 10 hold 9;", 1);
        float[] due = {0f, 2f / 7f, 6f / 7f, 6f / 7f};
        for (float share : due) {
            Check.same("on day " + m.day(), m.wasteShare(0), share);
            m.run(1);
        }
        m.discard(2);
        Check.same("by a call", m.wasteShare(1), 1f);
        m.run(6);
        Check.same("with a new batch", m.wasteShare(1), 1f / 3f);
        Document.quote(45, "Returns the share; 0 if no unit was delivered.");
        Check.same("no batch", Check.market("product a base 10 life 1;").wasteShare(0), 0f);
        Check.same("one to come", Check.market("product a base 10 life 1;batch 1 a 1;", 1).wasteShare(0), 0f);
        products(45, m, m::wasteShare);
    }

    private static void demand() {
        Document.quote(46, "Counts the waiting buyers of a product with at least some value.");
        MarkdownMarket m = Check.market("product a base 9999 life 9;product b base 5 life 9;batch 0 a 1;batch 0 b 9;"
                + "buyer 0 a 0 patience 2;buyer 0 a 7 patience 1;buyer 0 a 7 patience 2;buyer 0 a 9998 patience 1;"
                + "buyer 0 b 4 patience 1;buyer 0 a 9999;buyer 0 a 7;buyer 1 a 7;buyer 0 b 5 hold 9;", 1);
        Check.same("four", m.demand(0, 0), 4);
        Check.same("the other product", m.demand(1, 0), 1);
        Document.quote(46, "value: the smallest value that counts");
        int[][] cases = {{Integer.MIN_VALUE, 4}, {-1, 4}, {0, 4}, {1, 3}, {7, 3}, {8, 1}, {9998, 1}, {9999, 0}, {10000, 0},
            {Integer.MAX_VALUE, 0}};
        for (int[] c : cases) {
            Check.same("from " + c[0], m.demand(0, c[0]), c[1]);
        }
        Document.quote(46, "Returns the number of buyers.");
        m.run(1);
        Check.same("two are left", m.demand(0, 0), 2);
        m.run(1);
        Check.same("none is left", m.demand(0, 0), 0);
        products(46, m, product -> m.demand(product, 0));
    }

    private static void expiring() {
        Document.quote(47, "Returns the free and held units of a product that will be discarded on the next day if they are not bought "
                + "(and no hold on them ends before).");
        MarkdownMarket m = Check.market("product a base 10 life 2;product b base 10 life 60;batch 0 a 5;batch 1 a 6;batch 0 b 7;"
                + "batch 0 a 1;buyer 0 a 10;buyer 0 a 10 hold 9;buyer 0 a 10 hold 2;");
        int[] due = {0, 0, 5, 6, 0};
        for (int units : due) {
            Check.same("on day " + m.day(), m.expiring(0), units);
            int discarded = m.figure(0, 4);
            m.run(1);
            Check.same("and they were discarded", m.figure(0, 4) - discarded, units);
        }
        Document.quote(47, "Returns the number of units.");
        m.run(54);
        Check.same("at age 58", m.expiring(1), 0);
        m.run(1);
        Check.same("at age 59", m.expiring(1), 7);
        m.run(1);
        Check.same("discarded", m.expiring(1), 0);
        MarkdownMarket one = Check.market("product a base 10 life 1;batch 0 a 5;batch 1 a 3;");
        Check.same("not delivered", one.expiring(0), 0);
        one.run(1);
        Check.same("a shelf life of a day", one.expiring(0), 5);
        one.discard(0);
        Check.same("nothing is left", one.expiring(0), 0);
        products(47, m, m::expiring);
    }
}
