/** Promises 34 to 47: income, welfare, hindsight, the future and other results. */
final class ResultTest {
    private static final Class<IndexOutOfBoundsException> INDEX = IndexOutOfBoundsException.class;
    private static final Class<IllegalArgumentException> ARGUMENT = IllegalArgumentException.class;

    private ResultTest() {
    }

    public static void main(String[] args) {
        incomeAndWelfare();
        hindsight();
        hindsightFits();
        efficiency();
        fixedPrices();
        regret();
        bestPercent();
        bestPercentLimits();
        daysToSellOut();
        futureChangesNothing();
        meanSoldAge();
        wasteShare();
        demand();
        expiring();
        Check.finish("ResultTest");
    }

    private static void incomeAndWelfare() {
        MarkdownMarket m = Check.market("fee 50;product a base 40 life 9;product b base 7 life 9;batch 0 a 9;batch 0 b 9;"
                + "buyer 0 a 50;buyer 0 a 45 hold 1;buyer 0 a 41 stale 30 hold 1;buyer 0 b 8;buyer 0 b 6;buyer 0 a 50 hold 9;");
        Check.same("34 at first", m.income(), 0);
        Check.same("35 at first", m.welfare(), 0);
        m.run(1);
        Check.same("34 deposits of holds are no income", m.income(), 47);
        Check.same("35 holders have not bought", m.welfare(), 58);
        m.run(1);
        Check.same("34 with a price and a forfeited deposit", m.income(), 47 + 40 + 20);
        Check.same("35 with a holder who bought", m.welfare(), 58 + 45);
        m.release(5);
        Check.same("34 after a release", m.income(), 107);
        MarkdownMarket gift = Check.market("product a base 40 life 9;batch 0 a 9;buyer 0 a 30 patience 3;", 1);
        gift.sell(0, 0, 0);
        Check.same("34 nothing for a gift", gift.income(), 0);
        Check.same("35 but its value", gift.welfare(), 30);
    }

    private static void hindsight() {
        // One unit each day for a day; the patient buyer must give way to the one who cannot wait.
        MarkdownMarket m = Check.market("product a base 1 life 1;batch 0 a 1;batch 1 a 1;batch 2 a 1;"
                + "buyer 0 a 90 patience 2;buyer 0 a 50;buyer 0 a 70 patience 1;buyer 2 a 5;");
        Check.same("36 at first", m.hindsight(), 0);
        Check.same("37 at first", m.mostServed(), 0);
        m.run(1);
        Check.same("36 one unit is delivered", m.hindsight(), 90);
        Check.same("37 one unit is delivered", m.mostServed(), 1);
        m.run(1);
        Check.same("36 two units", m.hindsight(), 90 + 70);
        Check.same("37 two units", m.mostServed(), 2);
        m.run(1);
        Check.same("36 three units", m.hindsight(), 90 + 70 + 50);
        Check.same("37 three units", m.mostServed(), 3);
        Check.same("35 what was reached", m.welfare(), 90 + 70 + 5);
        MarkdownMarket two = Check.market("product a base 99 life 2;product b base 9 life 2;batch 0 a 2;batch 0 b 1;"
                + "buyer 0 a 10;buyer 0 a 30;buyer 0 a 20;buyer 0 b 0;buyer 0 b 0;", 1);
        Check.same("37 buyers of no value count", two.mostServed(), 3);
        Check.same("36 units are for their product", two.hindsight(), 50);
    }

    private static void hindsightFits() {
        // A batch of day 3 with a shelf life of 2 days: on the shelf on days 3 and 4.
        String[] buyers = {"buyer 2 a 1", "buyer 2 a 2 patience 1", "buyer 0 a 4 patience 30", "buyer 3 a 8",
            "buyer 4 a 16", "buyer 5 a 32 patience 9", "buyer 4 a 64 hold 9", "buyer 6 a 128"};
        int[] due = {0, 2, 4, 8, 16, 0, 64, 0};
        for (int i = 0; i < buyers.length; i++) {
            MarkdownMarket m = Check.market("product a base 999 life 2;batch 3 a 50;" + buyers[i] + ";", 6);
            Check.same("36 " + buyers[i], m.hindsight(), due[i]);
            Check.same("37 " + buyers[i], m.mostServed(), due[i] > 0 ? 1 : 0);
        }
        MarkdownMarket m = Check.market("product a base 999 life 2;batch 0 a 3;buyer 0 a 7;buyer 1 a 20;", 1);
        Check.same("36 without buyers to come", m.hindsight(), 7);
        m.discard(0);
        Check.same("36 with units discarded", m.hindsight(), 7);
        MarkdownMarket later = Check.market("product a base 999 life 2;batch 2 a 3;buyer 0 a 7 patience 5;", 2);
        Check.same("36 without units to come", later.hindsight(), 0);
        later.run(1);
        Check.same("36 with them", later.hindsight(), 7);
    }

    private static void efficiency() {
        MarkdownMarket m = Check.market("product a base 10 life 9;batch 0 a 2;buyer 0 a 10;buyer 0 a 11;buyer 0 a 20;");
        Check.same("38 optimum 0", m.efficiency(), 1.0);
        m.run(1);
        Check.same("38 a share", m.efficiency(), 21.0 / 31.0);
        MarkdownMarket none = Check.market("product a base 10 life 9;batch 0 a 2;buyer 0 a 9;", 1);
        Check.same("38 nobody bought", none.efficiency(), 0.0);
        // On day 2 the holder swaps to the new unit, and the old one is sold for less.
        MarkdownMarket swap = Check.market("fee 0;product a base 10 life 9;batch 0 a 1;batch 2 a 1;"
                + "buyer 0 a 20 stale 1 hold 2;buyer 2 a 9 patience 1;", 3);
        Check.same("38 before the sale", swap.efficiency(), 20.0 / 29.0);
        swap.sell(1, 0, 9);
        Check.same("38 all", swap.efficiency(), 1.0);
    }

    private static void fixedPrices() {
        MarkdownMarket m = Check.market("product a base 1 life 9;product b base 1 life 9;product c base 1 life 9;"
                + "batch 0 a 2;batch 0 b 9;buyer 0 a 60;buyer 0 a 50;buyer 0 a 30;buyer 0 a 100;buyer 2 a 900;"
                + "buyer 0 b 30;buyer 0 b 15;buyer 0 b 10;buyer 0 b 0;buyer 0 c 0;buyer 1 c 7;buyer 1 c 6;");
        Check.same("39 nobody has arrived", m.bestFixedPrice(0), -1);
        Check.same("40 nobody has arrived", m.fixedResult(0, 1), 0);
        m.run(1);
        Check.same("39 two units", m.bestFixedPrice(0), 60);
        Check.same("40 for 60", m.fixedResult(0, 60), 120);
        Check.same("40 for 61", m.fixedResult(0, 61), 61);
        Check.same("40 for 100", m.fixedResult(0, 100), 100);
        Check.same("40 for 101", m.fixedResult(0, 101), 0);
        Check.same("40 as many as there are units", m.fixedResult(0, 1), 2);
        Check.same("39 the smallest on a tie", m.bestFixedPrice(1), 10);
        Check.same("40 10 three times", m.fixedResult(1, 10), 30);
        Check.same("40 15 twice", m.fixedResult(1, 15), 30);
        Check.same("39 a value of 0 does not count", m.bestFixedPrice(2), -1);
        m.run(2);
        Check.same("39 with a new buyer", m.bestFixedPrice(0), 900);
        Check.same("39 results of 0 are a tie", m.bestFixedPrice(2), 6);
        Check.same("40 greatest price", m.fixedResult(0, 9999), 0);
        MarkdownMarket rising = Check.market("product a base 1 life 9;product b base 1 life 9;batch 0 a 9;batch 0 b 1;"
                + "buyer 0 a 10;buyer 0 a 15;buyer 0 a 30;buyer 0 b 1;buyer 0 b 1;", 1);
        Check.same("40 asked first", rising.fixedResult(1, 1), 1);
        Check.same("40 twice 15", rising.fixedResult(0, 15), 30);
        Check.same("39 the smallest on a tie again", rising.bestFixedPrice(0), 10);
        Check.same("39 a value of 1 counts", rising.bestFixedPrice(1), 1);
        // The buyer of 9 must leave the old unit to the one of 8.
        MarkdownMarket swap = Check.market("product a base 1 life 1;batch 0 a 1;batch 1 a 1;"
                + "buyer 0 a 9 patience 1;buyer 0 a 8;", 2);
        Check.same("39 both are served", swap.bestFixedPrice(0), 8);
        Check.same("40 both are served", swap.fixedResult(0, 8), 16);
        for (int product : new int[] {-1, 3}) {
            Check.fails("39 product", INDEX, () -> m.bestFixedPrice(product));
            Check.fails("40 product first", INDEX, () -> m.fixedResult(product, 0));
        }
        Check.fails("40 price 0", ARGUMENT, () -> m.fixedResult(0, 0));
        Check.fails("40 price", ARGUMENT, () -> m.fixedResult(0, 10000));
    }

    private static void regret() {
        MarkdownMarket m = Check.market("product a base 40 life 9;product b base 9 life 9;product c base 9 life 9;"
                + "batch 0 a 2;batch 0 b 2;buyer 0 a 60;buyer 0 a 50;buyer 0 b 9;buyer 0 b 8;buyer 0 c 7;");
        Check.same("41 at first", m.regret(), 0);
        m.run(1);
        Check.same("41 over all products", m.regret(), 2 * 50 + 2 * 8 + 0 - (80 + 9));
        MarkdownMarket scarce = Check.market("product a base 5 life 9;batch 0 a 1;buyer 0 a 6;buyer 0 a 5;", 1);
        Check.same("41 asked first", scarce.regret(), 6 - 5);
        MarkdownMarket ladder = Check.market("product a base 60 life 9 markdown 1 50;batch 0 a 2;"
                + "buyer 0 a 60;buyer 1 a 31;", 2);
        Check.same("41 below 0", ladder.regret(), 62 - 90);
        ladder.addBuyer(0, 70, 0, -1, 0, 0);
        ladder.run(1);
        Check.same("41 after another day", ladder.regret(), 120 - 90);
    }

    private static void bestPercent() {
        String text = "product a base 100 life 9;product b base 50 life 9;batch 0 a 9;batch 1 b 9;";
        Check.same("42 the greatest income", Check.market(text + "buyer 0 a 80;buyer 0 a 80;buyer 0 a 120;")
                .bestPercent(0, 1), 80);
        Check.same("42 up to 150", Check.market(text + "buyer 0 a 999;").bestPercent(0, 1), 150);
        Check.same("42 down to 50", Check.market(text + "buyer 0 a 59;").bestPercent(0, 1), 50);
        Check.same("42 the smallest on a tie", Check.market(text + "buyer 0 a 49;").bestPercent(0, 12), 50);
        Check.same("42 a tie further up", Check.market(text + "buyer 0 a 60;buyer 0 a 120;").bestPercent(0, 1), 60);
        Check.same("42 the income of all products", Check.market(text + "buyer 0 b 999;").bestPercent(0, 2), 50);
        Check.same("42 of the one product", Check.market(text + "buyer 1 b 60;").bestPercent(1, 2), 120);
        Check.same("42 days count", Check.market(text + "buyer 0 a 50;buyer 2 a 100;").bestPercent(0, 2), 50);
        Check.same("42 one day more", Check.market(text + "buyer 0 a 50;buyer 2 a 110;").bestPercent(0, 3), 110);
        MarkdownMarket forfeit = Check.market("fee 90;product a base 100 life 9;batch 0 a 2;"
                + "buyer 0 a 110 stale 90 hold 1;", 1);
        Check.same("42 with forfeited deposits", forfeit.bestPercent(0, 1), 50);
        MarkdownMarket rounded = Check.market("product a base 3 life 9;batch 0 a 9;buyer 0 a 2;buyer 0 a 3;");
        Check.same("42 not a day more", Check.market(text + "buyer 0 a 50;buyer 2 a 150;").bestPercent(0, 2), 50);
        // Whether the holder keeps the unit depends on the deposit and the price of the hold.
        MarkdownMarket kept = Check.market("fee 90;product a base 100 life 9;batch 0 a 2;buyer 0 a 100 hold 1;", 1);
        Check.same("42 with the deposit of a hold", kept.bestPercent(0, 1), 50);
        MarkdownMarket swapped = Check.market("fee 0;product a base 100 life 9;batch 0 a 2;buyer 0 a 100 hold 1;", 1);
        Check.same("42 with the price of a hold", swapped.bestPercent(0, 1), 100);
        // bases: 50 to 60 percent are 1, 70 to 90 are 2, 100 to 130 are 3, then 4
        Check.same("42 rounded down", rounded.bestPercent(0, 1), 70);
    }

    private static void bestPercentLimits() {
        MarkdownMarket least = Check.market("product a base 1 life 9;batch 0 a 9;buyer 0 a 1;");
        Check.same("42 at least 1", least.bestPercent(0, 1), 50);
        MarkdownMarket most = Check.market("product a base 9000 life 9;batch 0 a 9;buyer 0 a 9999;");
        Check.same("42 at most 9999", most.bestPercent(0, 1), 120);
        for (int days : new int[] {0, 13, -1}) {
            Check.fails("42 days", ARGUMENT, () -> most.bestPercent(0, days));
            Check.fails("42 product first", INDEX, () -> most.bestPercent(1, days));
        }
        Check.fails("42 negative product", INDEX, () -> most.bestPercent(-1, 1));
    }

    private static void daysToSellOut() {
        MarkdownMarket m = Check.market("product a base 10 life 9;product b base 10 life 3;batch 0 a 2;batch 9 a 1;batch 0 b 5;"
                + "buyer 2 a 10;buyer 4 a 10 hold 2;buyer 9 a 10;");
        Check.same("43 none now", m.daysToSellOut(0, 1), 0);
        MarkdownMarket held = Check.market("product a base 10 life 9;batch 0 a 1;buyer 0 a 10 hold 4;", 2);
        Check.same("43 a hold of these days", held.daysToSellOut(0, 9), 3);
        m.run(1);
        Check.same("43 a hold must end", m.daysToSellOut(0, 60), 6);
        Check.same("43 just within the limit", m.daysToSellOut(0, 6), 6);
        Check.same("43 not within the limit", m.daysToSellOut(0, 5), -1);
        Check.same("43 discarded", m.daysToSellOut(1, 60), 3);
        m.run(6);
        Check.same("43 sold out now", m.daysToSellOut(0, 1), 0);
        MarkdownMarket new9 = Check.market("product a base 10 life 2;batch 0 a 1;batch 1 a 1;batch 2 a 1;buyer 0 a 1;", 1);
        Check.same("43 with batches to come", new9.daysToSellOut(0, 60), 4);
        MarkdownMarket long60 = Check.market("product a base 10 life 60;batch 0 a 1;", 1);
        Check.same("43 60 days", long60.daysToSellOut(0, 60), 60);
        Check.same("43 59 days", long60.daysToSellOut(0, 59), -1);
        for (int limit : new int[] {0, 61, -1}) {
            Check.fails("43 limit", ARGUMENT, () -> m.daysToSellOut(0, limit));
            Check.fails("43 product first", INDEX, () -> m.daysToSellOut(2, limit));
        }
        Check.fails("43 negative product", INDEX, () -> m.daysToSellOut(-1, 1));
    }

    private static void futureChangesNothing() {
        MarkdownMarket m = Check.market("fee 20;product a base 10 life 2 markdown 1 50;batch 0 a 3;batch 1 a 3;"
                + "buyer 0 a 10 hold 1;buyer 1 a 9 patience 2 strategic 1;buyer 2 a 20;", 1);
        m.saveState();
        m.printReport();
        Check.put(m, "fee 1;");
        Check.same("42 asked", m.bestPercent(0, 12) >= 50, true);
        Check.same("43 asked", m.daysToSellOut(0, 60), 3);
        Check.same("42 day", m.day(), 0);
        Check.same("42 base", m.figure(0, 7), 10);
        Check.same("42 events", Check.events(m), "0,0,0,3 0,2,0,10");
        Check.same("42 holds", m.holds(), 1);
        Check.same("42 output", Check.output(m), "a:0/3 0;");
        Check.same("42 input", m.truncateInput(6), true);
        m.run(1);
        Check.same("42 saved state", m.restoreState(), 0);
        Check.same("42 saved base", m.figure(0, 7), 10);
    }

    private static void meanSoldAge() {
        MarkdownMarket m = Check.market("product a base 10 life 9;product b base 10 life 9;batch 0 a 9;batch 0 b 9;"
                + "buyer 0 a 10;buyer 1 a 10;buyer 4 a 10;buyer 0 a 10 hold 3;buyer 0 b 9;");
        Check.same("44 none", m.meanSoldAge(0), 0f);
        m.run(5);
        Check.same("44 held units count when they are bought", m.meanSoldAge(0), 2f);
        m.addBuyer(0, 10, 0, -1, 0, 0);
        m.addBuyer(0, 10, 0, -1, 0, 0);
        m.run(1);
        Check.same("44 as a float", m.meanSoldAge(0), 18f / 6f);
        m.addBuyer(0, 10, 0, -1, 0, 0);
        m.addBuyer(0, 10, 0, -1, 0, 0);
        m.run(2);
        Check.same("44 not exact", m.meanSoldAge(0), 30f / 8f);
        Check.same("44 other product", m.meanSoldAge(1), 0f);
        MarkdownMarket third = Check.market("product a base 10 life 9;batch 0 a 9;buyer 0 a 10;buyer 0 a 10;buyer 2 a 10;", 3);
        Check.same("44 two thirds", third.meanSoldAge(0), 2f / 3f);
        Check.fails("44 product", INDEX, () -> m.meanSoldAge(2));
        Check.fails("44 negative product", INDEX, () -> m.meanSoldAge(-1));
    }

    private static void wasteShare() {
        MarkdownMarket m = Check.market("product a base 10 life 2;product b base 1 life 9;batch 0 a 3;batch 2 a 4;batch 0 b 1;"
                + "buyer 0 a 10;buyer 0 a 10 hold 5;");
        Check.same("45 none", m.wasteShare(0), 0f);
        m.run(2);
        Check.same("45 nothing discarded", m.wasteShare(0), 0f);
        m.run(1);
        Check.same("45 free and held units", m.wasteShare(0), 2f / 7f);
        m.discard(1);
        Check.same("45 by a call", m.wasteShare(0), 6f / 7f);
        Check.same("45 other product", m.wasteShare(1), 0f);
        Check.fails("45 product", INDEX, () -> m.wasteShare(2));
        Check.fails("45 negative product", INDEX, () -> m.wasteShare(-1));
    }

    private static void demand() {
        MarkdownMarket m = Check.market("product a base 100 life 9;product b base 100 life 9;batch 0 a 1;"
                + "buyer 0 a 10 patience 9;buyer 0 a 20 patience 9;buyer 0 a 99;buyer 9 a 50;buyer 0 b 70 patience 1;"
                + "buyer 0 a 120 patience 9 hold 3;", 1);
        Check.same("46 all values", m.demand(0, Integer.MIN_VALUE), 2);
        Check.same("46 the same value", m.demand(0, 10), 2);
        Check.same("46 one more", m.demand(0, 11), 1);
        Check.same("46 greatest value", m.demand(0, 20), 1);
        Check.same("46 above it", m.demand(0, 21), 0);
        Check.same("46 above all", m.demand(0, Integer.MAX_VALUE), 0);
        Check.same("46 other product", m.demand(1, 0), 1);
        Check.fails("46 product", INDEX, () -> m.demand(2, 0));
        Check.fails("46 negative product", INDEX, () -> m.demand(-1, 0));
    }

    private static void expiring() {
        MarkdownMarket m = Check.market("fee 50;product a base 10 life 2;product b base 10 life 1;batch 0 a 3;batch 1 a 5;"
                + "batch 0 b 4;batch 1 b 6;buyer 0 a 10 hold 2;buyer 0 a 10;buyer 0 b 10 hold 1;");
        Check.same("47 nothing delivered", m.expiring(0), 0);
        m.run(1);
        Check.same("47 another day left", m.expiring(0), 0);
        Check.same("47 held units too", m.expiring(1), 4);
        m.run(1);
        Check.same("47 the older batch", m.expiring(0), 2);
        Check.same("47 the new batch", m.expiring(1), 6);
        m.run(1);
        Check.same("47 the next one", m.expiring(0), 5);
        Check.same("47 none", m.expiring(1), 0);
        Check.fails("47 product", INDEX, () -> m.expiring(2));
        Check.fails("47 negative product", INDEX, () -> m.expiring(-1));
    }
}
