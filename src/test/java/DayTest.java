import java.util.NoSuchElementException;

/** Promises 8 to 24: the days and what can be seen of them. */
final class DayTest {
    private static final Class<IndexOutOfBoundsException> INDEX = IndexOutOfBoundsException.class;
    private static final Class<IllegalArgumentException> ARGUMENT = IllegalArgumentException.class;
    private static final Class<NoSuchElementException> NO_ELEMENT = NoSuchElementException.class;

    private DayTest() {
    }

    public static void main(String[] args) {
        days();
        prices();
        figures();
        batches();
        buyers();
        waitingLine();
        bestBatches();
        strategicWaiting();
        holds();
        endsOfHolds();
        heldUnitsExpire();
        orderOfADay();
        Check.finish("DayTest");
    }

    private static void days() {
        MarkdownMarket m = Check.market("product a base 10 life 2;batch 0 a 2;batch 3 a 9;"
                + "buyer 0 a 10;buyer 1 a 10;buyer 3 a 10;buyer 3 a 9;");
        Check.same("8 before the first day", m.day(), -1);
        Check.fails("9 no days", ARGUMENT, () -> m.run(0));
        Check.fails("9 less than no days", ARGUMENT, () -> m.run(-1));
        Check.fails("9 too many days", ARGUMENT, () -> m.run(61));
        Check.same("8 no day has passed", m.day(), -1);
        Check.same("9 one day", m.run(1), 1);
        Check.same("8 first day", m.day(), 0);
        Check.same("9 the units of these days only", m.run(2), 1);
        Check.same("8 third day", m.day(), 2);
        Check.same("9 as many days as can be", m.run(60), 1);
        Check.same("8 63rd day", m.day(), 62);
    }

    private static void prices() {
        MarkdownMarket m = Check.market("product a base 99 life 9 markdown 2 50 markdown 3 0 markdown 58 7;"
                + "product b base 9999 life 1;");
        int[] percents = {100, 100, 50, 0, 0};
        int[] prices = {99, 99, 49, 0, 0};
        for (int age = 0; age < percents.length; age++) {
            Check.same("10 percentage", m.percentAt(0, age), percents[age]);
            Check.same("11 price", m.priceAt(0, age), prices[age]);
        }
        Check.same("10 past the shelf life", m.percentAt(0, 57), 0);
        Check.same("10 step past the shelf life", m.percentAt(0, 58), 7);
        Check.same("11 rounded down", m.priceAt(0, 59), 6);
        Check.same("10 no step", m.percentAt(1, 59), 100);
        Check.same("11 no step", m.priceAt(1, 59), 9999);
        Check.fails("10 product", INDEX, () -> m.percentAt(2, 0));
        Check.fails("10 negative product", INDEX, () -> m.percentAt(-1, 0));
        Check.fails("10 age", ARGUMENT, () -> m.percentAt(0, 60));
        Check.fails("10 negative age", ARGUMENT, () -> m.percentAt(0, -1));
        Check.fails("10 both", INDEX, () -> m.percentAt(2, 60));
        Check.fails("11 product", INDEX, () -> m.priceAt(2, 0));
        Check.fails("11 negative product", INDEX, () -> m.priceAt(-1, 0));
        Check.fails("11 age", ARGUMENT, () -> m.priceAt(0, 60));
        Check.fails("11 negative age", ARGUMENT, () -> m.priceAt(0, -1));
        Check.fails("11 both", INDEX, () -> m.priceAt(2, -1));
    }

    private static void figures() {
        // Day 0: buyer 0 buys, 1 holds, 2 leaves; day 1: buyer 3 holds the last unit of batch 0; day 2: it expires.
        MarkdownMarket m = Check.market("fee 50;product a base 40 life 2;product b base 7 life 9;"
                + "batch 0 a 3;batch 1 a 4;batch 9 a 5;batch 0 b 1;"
                + "buyer 0 a 45;buyer 0 a 45 hold 9;buyer 0 a 39;buyer 1 a 45 hold 1;buyer 8 a 50;"
                + "buyer 0 b 7;");
        figuresAre("12 before the first day", m, 0, 0, 0, 0, 0, 0, 0, 0, 40, 2, 0, 0);
        m.run(1);
        figuresAre("12 day 0", m, 0, 3, 1, 1, 1, 0, 40, 0, 40, 2, 3, 1);
        figuresAre("12 the other product", m, 1, 1, 1, 0, 0, 0, 7, 0, 7, 9, 1, 0);
        m.run(1);
        figuresAre("12 day 1", m, 0, 7, 1, 4, 2, 0, 40, 0, 40, 2, 4, 1);
        m.run(1);
        figuresAre("12 day 2", m, 0, 7, 1, 4, 0, 2, 40, 0, 40, 2, 4, 3);
        m.run(1);
        figuresAre("12 day 3", m, 0, 7, 1, 0, 0, 6, 40, 0, 40, 2, 4, 3);
        for (int what : new int[] {-1, 11, Integer.MAX_VALUE}) {
            Check.fails("12 figure", ARGUMENT, () -> m.figure(0, what));
            Check.fails("12 product and figure", INDEX, () -> m.figure(2, what));
        }
        Check.fails("12 product", INDEX, () -> m.figure(2, 0));
        Check.fails("12 negative product", INDEX, () -> m.figure(-1, 0));
        MarkdownMarket forfeit = Check.market("fee 50;product a base 40 life 4 markdown 1 10;batch 0 a 3;"
                + "buyer 0 a 45 hold 1;buyer 0 a 40 stale 30 hold 1;", 2);
        figuresAre("12 forfeited deposits", forfeit, 0, 3, 2, 1, 0, 0, 8, 40, 40, 4, 2, 0);
    }

    private static void figuresAre(String what, MarkdownMarket m, int product, int... due) {
        for (int i = 0; i < due.length; i++) {
            Check.same(what + ", figure " + i, m.figure(product, i), due[i]);
        }
    }

    private static void batches() {
        MarkdownMarket m = Check.market("product a base 10 life 3 markdown 1 55;product b base 20 life 9;"
                + "batch 1 a 2;batch 0 b 3;batch 0 a 1;batch 0 a 4;batch 2 a 5;"
                + "buyer 0 a 10;buyer 0 b 90 hold 5;");
        Check.same("13 nothing is delivered", m.batches(0), 0);
        Check.fails("14 nothing is delivered", NO_ELEMENT, () -> m.batch(0, 0, 0));
        m.run(2);
        Check.same("13 one is sold out", m.batches(0), 2);
        batchIs(m, 0, 0, 0, 1, 2, 0, 10, 0);
        batchIs(m, 0, 1, 3, 0, 4, 0, 5, 1);
        Check.same("13 a held unit", m.batches(1), 1);
        batchIs(m, 1, 0, 1, 0, 2, 1, 20, 1);
        m.discard(1);
        Check.same("13 only a held unit", m.batches(1), 1);
        batchIs(m, 1, 0, 1, 0, 0, 1, 20, 1);
        m.release(1);
        m.discard(1);
        Check.same("13 none any more", m.batches(1), 0);
        m.setBase(0, 100);
        Check.same("14 present price", m.batch(0, 1, 4), 55);
        Check.fails("13 product", INDEX, () -> m.batches(2));
        Check.fails("13 negative product", INDEX, () -> m.batches(-1));
        Check.fails("14 product", INDEX, () -> m.batch(2, 9, 9));
        Check.fails("14 negative product", INDEX, () -> m.batch(-1, 0, 0));
        Check.fails("14 batch", NO_ELEMENT, () -> m.batch(0, 2, 9));
        Check.fails("14 negative batch", NO_ELEMENT, () -> m.batch(0, -1, 0));
        Check.fails("14 property", ARGUMENT, () -> m.batch(0, 0, 6));
        Check.fails("14 negative property", ARGUMENT, () -> m.batch(0, 0, -1));
    }

    private static void batchIs(MarkdownMarket m, int product, int index, int... due) {
        for (int i = 0; i < due.length; i++) {
            Check.same("14 batch " + product + "." + index + ", property " + i, m.batch(product, index, i), due[i]);
        }
    }

    private static void buyers() {
        MarkdownMarket m = Check.market("fee 25;product a base 10 life 3;product b base 40 life 3;"
                + "batch 0 a 1;batch 1 b 1;buyer 0 a 10;buyer 0 a 9 patience 2;buyer 0 b 3;"
                + "buyer 1 b 70 patience 1 hold 1;buyer 999 b 9999 patience 30;");
        Check.same("15 number", m.buyers(), 5);
        statesAre("16 before the first day", m, 0, 0, 0, 0, 0);
        buyerIs(m, 0, 0, 10, 0, 0, 0, -1, -1);
        m.run(2);
        statesAre("16 on day 1", m, 3, 1, 4, 2, 0);
        buyerIs(m, 0, 0, 10, 0, 0, 10, 0, 0);
        buyerIs(m, 1, 0, 9, 0, 2, 0, -1, -1);
        buyerIs(m, 2, 1, 3, 0, 0, 0, 0, -1);
        buyerIs(m, 3, 1, 70, 1, 2, 10, -1, 1);
        buyerIs(m, 4, 1, 9999, 999, 1029, 0, -1, -1);
        m.run(1);
        statesAre("16 on day 2", m, 3, 4, 4, 3, 0);
        buyerIs(m, 1, 0, 9, 0, 2, 0, 2, -1);
        buyerIs(m, 3, 1, 70, 1, 2, 40, 2, 1);
        for (int buyer : new int[] {-1, 5, 40, Integer.MIN_VALUE}) {
            Check.fails("16 buyer", INDEX, () -> m.buyerState(buyer));
            Check.fails("17 buyer", INDEX, () -> m.buyer(buyer, 7));
        }
        Check.fails("17 property", ARGUMENT, () -> m.buyer(0, 7));
        Check.fails("17 negative property", ARGUMENT, () -> m.buyer(0, -1));
    }

    private static void statesAre(String what, MarkdownMarket m, int... due) {
        for (int i = 0; i < due.length; i++) {
            Check.same(what + ", buyer " + i, m.buyerState(i), due[i]);
        }
    }

    private static void buyerIs(MarkdownMarket m, int buyer, int... due) {
        for (int i = 0; i < due.length; i++) {
            Check.same("17 buyer " + buyer + ", property " + i, m.buyer(buyer, i), due[i]);
        }
    }

    private static void waitingLine() {
        MarkdownMarket m = Check.market("product a base 50 life 9;buyer 1 a 10 patience 2;buyer 0 a 60 patience 9;"
                + "buyer 1 a 70 patience 9;buyer 0 a 20 patience 9;");
        Check.same("18 nobody yet", m.waiting(), 0);
        Check.fails("19 nobody yet", NO_ELEMENT, () -> m.waitingBuyer(0));
        m.run(2);
        lineIs("19 by day, then by number", m, 1, 3, 0, 2);
        Check.fails("19 behind the last", NO_ELEMENT, () -> m.waitingBuyer(4));
        Check.fails("19 before the first", NO_ELEMENT, () -> m.waitingBuyer(-1));
        m.addBatch(0, 1);
        m.addBuyer(0, 99, 9, -1, 0, 0);
        m.run(1);
        lineIs("19 who came first is asked first", m, 3, 0, 2, 4);
        m.run(1);
        lineIs("19 the impatient one leaves", m, 3, 2, 4);
    }

    private static void lineIs(String what, MarkdownMarket m, int... due) {
        Check.same("18 " + what, m.waiting(), due.length);
        for (int i = 0; i < due.length; i++) {
            Check.same(what, m.waitingBuyer(i), due[i]);
        }
    }

    private static void bestBatches() {
        // Nobody may buy on the way: the buyers come later, but can be asked about at any time.
        MarkdownMarket m = Check.market("product a base 100 life 9 markdown 1 90 markdown 2 70;product b base 1 life 9;"
                + "batch 0 a 1;batch 1 a 1;batch 1 a 1;batch 2 a 1;batch 0 b 1;batch 5 a 1;"
                + "buyer 90 a 100;buyer 90 a 200 stale 10;buyer 90 a 200 stale 11;buyer 90 a 69;buyer 90 a 70;"
                + "buyer 90 a 71 stale 1;buyer 90 a 120 stale 30;buyer 90 a 9999 stale 9;");
        Check.same("20 nothing is delivered", m.bestBatch(0), -1);
        Check.same("21 nothing is delivered", m.bestSurplus(0), -1);
        m.run(3);
        // ages 2, 1, 1, 0; prices 70, 90, 90, 100
        bestIs(m, 0, 0, 30);
        bestIs(m, 1, 0, 110);
        bestIs(m, 2, 0, 108);
        bestIs(m, 3, -1, -1);
        bestIs(m, 4, 0, 0);
        bestIs(m, 5, -1, -1);
        bestIs(m, 6, 3, 20);
        bestIs(m, 7, 0, 9911);
        m.discard(0);
        // 90 + 10 and 100 + 0 are worth the same: the lower price counts, then the smaller number
        bestIs(m, 1, 1, 100);
        bestIs(m, 2, 3, 100);
        m.discard(1);
        bestIs(m, 1, 2, 100);
        for (int buyer : new int[] {-1, 8}) {
            Check.fails("20 buyer", INDEX, () -> m.bestBatch(buyer));
            Check.fails("21 buyer", INDEX, () -> m.bestSurplus(buyer));
            Check.fails("22 buyer", INDEX, () -> m.waitsFor(buyer));
        }
        MarkdownMarket older = Check.market("product a base 10 life 9;batch 1 a 1;batch 0 a 1;batch 0 a 1;buyer 9 a 10;", 2);
        bestIs(older, 0, 1, 0);
        // The older unit costs no more, but leaves less.
        MarkdownMarket fresh = Check.market("product a base 100 life 9 markdown 1 90;product b base 100 life 9;"
                + "batch 1 a 1;batch 0 a 1;batch 1 b 1;batch 0 b 1;buyer 9 a 150 stale 30;buyer 9 b 150 stale 30;", 2);
        bestIs(fresh, 0, 0, 50);
        bestIs(fresh, 1, 2, 50);
    }

    private static void bestIs(MarkdownMarket m, int buyer, int batch, int surplus) {
        Check.same("20 best batch for " + buyer, m.bestBatch(buyer), batch);
        Check.same("21 best surplus for " + buyer, m.bestSurplus(buyer), surplus);
    }

    private static void strategicWaiting() {
        // Prices 100 80 80 50 50; the shelf life ends on day 5.
        String text = "product a base 100 life 5 markdown 1 80 markdown 3 50;batch 0 a 9;batch 7 a 1;";
        String[] options = {"", " strategic 0", " patience 30", " patience 30 strategic 0", " patience 2 strategic 0",
            " patience 30 strategic 14", " patience 30 strategic 17", " patience 30 strategic 20",
            " patience 30 strategic 5 stale 15", " patience 30 strategic 10 stale 5", " patience 30 strategic 0 hold 2"};
        int[] days = {-1, -1, -1, 3, 1, 3, 1, -1, -1, 1, 3};
        StringBuilder all = new StringBuilder(text);
        for (String option : options) {
            all.append("buyer 90 a 100").append(option).append(';');
        }
        MarkdownMarket m = Check.market(all.toString());
        Check.same("22 without a best batch", m.waitsFor(3), -1);
        m.run(1);
        // They have not arrived; up to their leaving day it is longer than the shelf life.
        int[] longer = {-1, 3, -1, 3, 3, 3, 1, -1, -1, 1, 3};
        for (int i = 0; i < options.length; i++) {
            Check.same("22 before arrival" + options[i], m.waitsFor(i), longer[i]);
        }
        MarkdownMarket now = Check.market(all.toString().replace("buyer 90", "buyer 0"), 1);
        for (int i = 0; i < options.length; i++) {
            boolean waits = days[i] >= 0;
            Check.same("22 state" + options[i], now.buyerState(i), waits ? 1 : options[i].contains("hold") ? 2 : 3);
            if (waits) {
                Check.same("22" + options[i], now.waitsFor(i), days[i]);
            }
        }
        strategicExample();
        strategicLater();
    }

    private static void strategicLater() {
        String text = "product a base 100 life 4 markdown 1 80 markdown 3 50 markdown 4 0;batch 2 a 9;";
        // Day 2 is the present day; the unit keeps till day 5, at the price 50.
        String[] options = {"patience 2", "patience 3", "patience 4", "patience 30"};
        int[] days = {3, 5, 5, 5};
        for (int i = 0; i < options.length; i++) {
            MarkdownMarket m = Check.market(text + "buyer 2 a 100 " + options[i] + " strategic 14;", 3);
            Check.same("22 on day 2, " + options[i], m.waitsFor(0), days[i]);
        }
        MarkdownMarket dear = Check.market(text + "buyer 2 a 100 patience 3 strategic 15;", 3);
        Check.same("22 on day 2, as much tomorrow", dear.waitsFor(0), 3);
    }

    private static void strategicExample() {
        MarkdownMarket m = Check.market("product egg base 100 life 5 markdown 2 60;batch 0 egg 3;"
                + "buyer 0 egg 110 patience 4 strategic 5;buyer 0 egg 110 patience 1 strategic 5;"
                + "buyer 0 egg 110 patience 4 strategic 30;", 1);
        Check.same("22 for the lower price", m.waitsFor(0), 2);
        Check.same("22 not patient enough", m.buyerState(1), 3);
        Check.same("22 waiting costs too much", m.buyerState(2), 3);
        Check.same("22 the day comes", m.run(2), 1);
        Check.same("22 bought at the lower price", m.buyer(0, 4), 60);
        MarkdownMarket tie = Check.market("product a base 10 life 9 markdown 1 9 markdown 2 8 markdown 5 0;batch 0 a 1;"
                + "batch 2 a 1;buyer 9 a 10 strategic 0;", 1);
        Check.same("22 the earliest day on a tie", tie.waitsFor(0), 1);
        MarkdownMarket same = Check.market("product a base 10 life 9 markdown 1 50;batch 0 a 1;"
                + "buyer 0 a 10 patience 9 strategic 5;", 1);
        Check.same("22 not for an expectation as great as the surplus", same.buyerState(0), 3);
        MarkdownMarket unseen = Check.market("product a base 10 life 1;product b base 10 life 2 markdown 1 10;"
                + "batch 0 a 1;batch 1 a 1;batch 0 b 1;buyer 0 a 11 patience 9 strategic 0 stale 1;", 1);
        Check.same("22 nothing keeps till tomorrow", unseen.buyerState(0), 3);
    }

    private static void holds() {
        MarkdownMarket m = Check.market("fee 33;product a base 50 life 9;product b base 9 life 9;batch 0 a 9;"
                + "batch 0 b 2;buyer 0 a 60 patience 1 hold 9;buyer 0 b 60 hold 3;buyer 1 a 60 hold 1;");
        Check.same("23 none", m.holds(), 0);
        Check.fails("24 none", NO_ELEMENT, () -> m.hold(0, 0));
        m.run(2);
        Check.same("23 number", m.holds(), 3);
        holdIs(m, 0, 0, 0, 50, 16, 9);
        holdIs(m, 1, 1, 1, 9, 2, 3);
        holdIs(m, 2, 2, 0, 50, 16, 2);
        Check.same("17 only the deposit is paid", m.buyer(0, 4), 16);
        m.setFee(100);
        Check.same("24 the deposit stays", m.hold(0, 3), 16);
        Check.fails("24 behind the last", NO_ELEMENT, () -> m.hold(3, 9));
        Check.fails("24 before the first", NO_ELEMENT, () -> m.hold(-1, 0));
        Check.fails("24 property", ARGUMENT, () -> m.hold(0, 5));
        Check.fails("24 negative property", ARGUMENT, () -> m.hold(0, -1));
        Check.same("9 a held unit is bought", m.run(1), 1);
        Check.same("23 one less", m.holds(), 2);
        holdIs(m, 1, 1, 1, 9, 2, 3);
        Check.same("16 the leaving day is no matter to a holder", m.buyerState(0), 2);
        Check.same("12 a price of day 0", m.figure(0, 5), 50);
    }

    private static void holdIs(MarkdownMarket m, int index, int... due) {
        for (int i = 0; i < due.length; i++) {
            Check.same("24 hold " + index + ", property " + i, m.hold(index, i), due[i]);
        }
    }

    private static void endsOfHolds() {
        String text = "fee 20;product a base 50 life 9 markdown 2 40;batch 0 a 1;batch 2 a 2;";
        // r is 60 - 50 + 10 = 20; the batch of day 2 would leave 10.
        MarkdownMarket keeps = Check.market(text + "buyer 0 a 60 hold 2;", 3);
        Check.same("9 kept", Check.events(keeps), "0,0,0,1 0,2,0,50 2,0,1,2 2,3,0,50");
        Check.same("17 the deposit is part of the price", keeps.buyer(0, 4), 50);
        Check.same("17 the held batch", keeps.buyer(0, 6), 0);
        // r is 20 - 18 = 2
        MarkdownMarket swaps = Check.market(text + "buyer 0 a 60 stale 9 hold 2;", 3);
        Check.same("9 cancelled for a better unit", Check.events(swaps),
                "0,0,0,1 0,2,0,50 2,0,1,2 2,4,0,10 2,1,0,50");
        Check.same("17 the deposit is paid as well", swaps.buyer(0, 4), 60);
        Check.same("17 the better batch", swaps.buyer(0, 6), 1);
        Check.same("12 the unit is free again", swaps.figure(0, 2), 2);
        Check.same("12 nothing is held", swaps.figure(0, 3), 0);
        // r is 20 - 2 * 5 = 10, as much as the other unit leaves
        MarkdownMarket tie = Check.market(text + "buyer 0 a 60 stale 5 hold 2;", 3);
        Check.same("9 kept on a tie", Check.events(tie), "0,0,0,1 0,2,0,50 2,0,1,2 2,3,0,50");
        MarkdownMarket none = Check.market("fee 20;product a base 50 life 9 markdown 2 40;batch 0 a 1;"
                + "buyer 0 a 50 stale 5 hold 2;", 3);
        Check.same("9 kept with an r of 0", Check.events(none), "0,0,0,1 0,2,0,50 2,3,0,50");
        // the held unit is the best offer, but it is not free
        MarkdownMarket leaves = Check.market("fee 20;product a base 50 life 9 markdown 2 40;batch 0 a 1;"
                + "buyer 0 a 50 patience 9 stale 6 hold 2;", 3);
        Check.same("9 cancelled and gone", Check.events(leaves), "0,0,0,1 0,2,0,50 2,4,0,10 2,6,0,50");
        Check.same("17 the deposit is lost", leaves.buyer(0, 4), 10);
        Check.same("17 no batch", leaves.buyer(0, 6), -1);
        Check.same("17 the day", leaves.buyer(0, 5), 2);
        Check.same("34 the deposit is income", leaves.income(), 10);
        Check.same("23 no hold", leaves.holds(), 0);
        freedUnitGoesOn();
    }

    private static void freedUnitGoesOn() {
        // Holder 0 cancels first, so that holder 1 finds the freed unit.
        MarkdownMarket m = Check.market("fee 0;product a base 50 life 9 markdown 2 40;batch 0 a 2;"
                + "buyer 0 a 50 stale 6 hold 2;buyer 0 a 50 hold 2;", 3);
        Check.same("9 the second holder finds it", Check.events(m),
                "0,0,0,2 0,2,0,50 0,2,1,50 2,4,0,0 2,6,0,50 2,4,1,0 2,1,1,20");
        MarkdownMarket n = Check.market("fee 0;product a base 50 life 9 markdown 2 40;batch 0 a 1;"
                + "buyer 0 a 50 stale 6 hold 2;buyer 1 a 20 patience 1;", 3);
        Check.same("9 and so does a waiting buyer", Check.events(n),
                "0,0,0,1 0,2,0,50 2,4,0,0 2,6,0,50 2,1,1,20");
    }

    private static void heldUnitsExpire() {
        MarkdownMarket m = Check.market("fee 50;product a base 10 life 2;batch 0 a 2;batch 0 a 3;"
                + "buyer 0 a 10 hold 2;buyer 0 a 10 hold 9;buyer 1 a 10 hold 9;", 3);
        Check.same("9 discarded before the hold ends", Check.events(m), "0,0,0,2 0,0,1,3 0,2,0,10 0,2,1,10 1,2,2,10 "
                + "2,5,0,2 2,6,0,10 2,6,1,10 2,5,1,3 2,6,2,10");
        Check.same("17 the deposit is given back", m.buyer(0, 4), 0);
        Check.same("17 the buyer left", m.buyer(0, 5), 2);
        Check.same("17 without a unit", m.buyer(0, 6), -1);
        Check.same("34 no income", m.income(), 0);
        Check.same("23 no hold", m.holds(), 0);
    }

    private static void orderOfADay() {
        // Day 1: batch 0 expires before batches 1 and 2 come; the old buyer is asked before the new one.
        MarkdownMarket m = Check.market("product a base 10 life 1;batch 0 a 1;batch 1 a 1;batch 1 a 1;"
                + "buyer 1 a 30;buyer 0 a 9 patience 1;buyer 1 a 40;buyer 1 a 20;", 1);
        m.setBase(0, 9);
        m.run(1);
        Check.same("9 order", Check.events(m), "0,0,0,1 1,5,0,1 1,0,1,1 1,0,2,1 1,1,1,9 1,1,0,9 1,6,2,40 1,6,3,20");
        MarkdownMarket late = Check.market("product a base 10 life 1 markdown 1 0;batch 0 a 1;buyer 1 a 10;", 3);
        Check.same("9 no sale on the day of expiry", Check.events(late), "0,0,0,1 1,5,0,1 1,6,0,10");
    }
}
