/** Prices, buyers and the steps of a day, as the description tells them, sentence by sentence. */
final class EdgeDays {
    private EdgeDays() {
    }

    static void test() {
        prices();
        buyerStates();
        surplus();
        bestBatch();
        strategicWaiting();
        expectation();
        askedBuyer();
        beginOfHold();
        dayBegins();
        discards();
        deliveries();
        endOfHold();
        kept();
        cancelled();
        endOfDay();
    }

    private static void quote(String words) {
        Document.quote(Document.DESCRIPTION, words);
    }

    private static void events(MarkdownMarket m, String due) {
        Check.same("events", Check.events(m), due);
    }

    private static void states(MarkdownMarket m, int... due) {
        for (int i = 0; i < due.length; i++) {
            Check.same("state of buyer " + i, m.buyerState(i), due[i]);
        }
    }

    private static void percents(MarkdownMarket m, int[]... due) {
        for (int[] d : due) {
            Check.same("at age " + d[0], m.percentAt(0, d[0]), d[1]);
        }
    }

    private static void prices() {
        quote("Prices. The age of a batch is the present day minus its day of delivery.");
        MarkdownMarket m = Check.market("product a base 10 life 60;batch 1 a 1;", 2);
        Check.same("on the day of delivery", m.batch(0, 0, 5), 0);
        m.run(1);
        Check.same("a day later", m.batch(0, 0, 5), 1);
        m.run(58);
        Check.same("58 days later", m.batch(0, 0, 5), 59);
        quote("The price of a unit at an age is the base price of the product times a percentage, divided by 100 and "
                + "rounded down.");
        int[][] cases = {{1, 100, 1}, {1, 99, 0}, {9999, 100, 9999}, {9999, 99, 9899}, {9999, 0, 0}, {199, 50, 99},
            {200, 50, 100}, {201, 50, 100}, {3, 34, 1}, {3, 33, 0}, {9999, 1, 99}};
        for (int[] c : cases) {
            Check.same(c[1] + " percent of " + c[0], Check.market("product a base " + c[0] + " life 5 markdown 1 " + c[1]
                    + ";").priceAt(0, 1), c[2]);
        }
        quote("The percentage is that of the step of the ladder with the greatest age that is not greater than the age "
                + "of the unit;");
        percents(Check.market("product a base 1 life 5 markdown 5 60 markdown 6 70 markdown 59 1;"),
                new int[][] {{5, 60}, {6, 70}, {7, 70}, {58, 70}, {59, 1}});
        quote("100 without such a step.");
        percents(Check.market("product a base 1 life 5 markdown 5 60;"), new int[][] {{0, 100}, {4, 100}, {5, 60}});
        percents(Check.market("product a base 1 life 5 markdown 1 0;"), new int[][] {{0, 100}, {1, 0}});
        percents(Check.market("product a base 1 life 5;"), new int[][] {{0, 100}, {59, 100}});
    }

    private static void buyerStates() {
        quote("Buyers. A buyer has a state: 0 not arrived yet, 1 waiting, 2 holding, 3 bought, 4 left.");
        states(Check.market("product a base 10 life 9;batch 0 a 2;buyer 1 a 50;buyer 0 a 9 patience 1;buyer 0 a 10 hold 1;"
                + "buyer 0 a 10;buyer 0 a 9;", 1), 0, 1, 2, 3, 4);
        quote("The leaving day is the day of arrival plus the patience.");
        MarkdownMarket m = Check.market("product a base 10 life 9;buyer 0 a 9;buyer 0 a 9 patience 1;buyer 1 a 9 patience 30;"
                + "buyer 999 a 9 patience 30;", 1);
        int[] leavingDays = {0, 1, 31, 1029};
        for (int i = 0; i < leavingDays.length; i++) {
            Check.same("of buyer " + i, m.buyer(i, 3), leavingDays[i]);
        }
        states(m, 4, 1, 0, 0);
        m.run(1);
        states(m, 4, 4, 1, 0);
        m.run(29);
        states(m, 4, 4, 1, 0);
        m.run(1);
        states(m, 4, 4, 4, 0);
    }

    private static void surplus() {
        quote("The surplus of a batch for a buyer is the value of the buyer minus the price of a unit of the batch minus "
                + "the penalty of the buyer times the age of the batch.");
        MarkdownMarket m = Check.market("product a base 9999 life 60 markdown 59 0;batch 0 a 1;buyer 90 a 9999 stale 99;"
                + "buyer 90 a 5841 stale 99;buyer 90 a 5840 stale 99;buyer 90 a 0;", 1);
        Check.same("at age 0", m.bestSurplus(0), 0);
        m.run(59);
        int[] due = {9999 - 99 * 59, 0, -1, 0};
        int[] batches = {0, 0, -1, 0};
        for (int i = 0; i < due.length; i++) {
            Check.same("surplus at age 59", m.bestSurplus(i), due[i]);
            Check.same("batch at age 59", m.bestBatch(i), batches[i]);
        }
        m.addBuyer(0, 9999, 0, -1, 0, 0);
        Check.same("greatest surplus", m.bestSurplus(4), 9999);
    }

    private static void bestBatch() {
        quote("The best batch for a buyer is, of the batches of the wanted product with free units");
        MarkdownMarket m = Check.market("product a base 50 life 9;product b base 1 life 9;batch 0 b 1;batch 0 a 1;batch 1 a 1;"
                + "batch 0 a 1;buyer 0 a 60 hold 9;buyer 9 a 60;", 1);
        Check.same("one is held, one is to come", m.bestBatch(1), 3);
        m.discard(3);
        Check.same("the free one is gone", m.bestBatch(1), -1);
        m.run(1);
        Check.same("the next one has come", m.bestBatch(1), 2);
        m.release(0);
        Check.same("the held one is free", m.bestBatch(1), 1);
        quote("whose surplus is 0 or more,");
        MarkdownMarket zero = Check.market("product a base 50 life 9;batch 0 a 9;buyer 0 a 50;buyer 0 a 49;", 1);
        states(zero, 3, 4);
        Check.same("0", zero.bestBatch(0) * 10 + zero.bestSurplus(0), 0);
        Check.same("-1", zero.bestBatch(1), -1);
        quote("the one with the greatest surplus;");
        String two = "product a base 100 life 9 markdown 1 99;batch 0 a 1;batch 1 a 1;";
        MarkdownMarket greatest = Check.market(two + "buyer 9 a 200;buyer 9 a 200 stale 2;", 2);
        Check.same("101 and 100", greatest.bestBatch(0) * 1000 + greatest.bestSurplus(0), 101);
        Check.same("99 and 100", greatest.bestBatch(1) * 1000 + greatest.bestSurplus(1), 1100);
        // At one price, the older unit leaves less, though it was delivered first.
        String one = "product a base 100 life 9;batch 1 a 1;batch 0 a 1;buyer 9 a 200 stale 1;";
        Check.same("100 and 99", Check.market(one, 2).bestBatch(0), 0);
        quote("on a tie the one with the lowest price,");
        Check.same("99 and 1 day, or 100", Check.market(two + "buyer 9 a 200 stale 1;", 2).bestBatch(0), 0);
        String turned = two.replace("batch 0 a 1;batch 1 a 1;", "batch 1 a 1;batch 0 a 1;");
        Check.same("the other way round", Check.market(turned + "buyer 9 a 200 stale 1;", 2).bestBatch(0), 1);
        quote("then the one that was delivered first,");
        String level = "product a base 100 life 9;batch 2 a 1;batch 1 a 1;batch 0 a 1;buyer 9 a 100;";
        MarkdownMarket first = Check.market(level, 3);
        for (int due = 2; due >= 0; due--) {
            Check.same("of those that are left", first.bestBatch(0), due);
            first.discard(due);
        }
        quote("then the one with the smallest number.");
        MarkdownMarket same = Check.market(level.replace("batch 1", "batch 0").replace("batch 2", "batch 0"), 1);
        for (int due = 0; due <= 2; due++) {
            Check.same("of those that are left", same.bestBatch(0), due);
            same.discard(due);
        }
        Check.same("none is left", same.bestBatch(0), -1);
    }

    /** Whether the last buyer waits on the present day, the text's last day. */
    private static void waits(String text, int days, int due) {
        MarkdownMarket m = Check.market(text, days);
        int buyer = m.buyers() - 1;
        Check.same("waits, " + text, m.buyerState(buyer) == 1, due >= 0);
        if (due >= 0) {
            Check.same("day, " + text, m.waitsFor(buyer), due);
        }
    }

    private static void strategicWaiting() {
        String falls = "product a base 100 life 9 markdown 1 90;batch 0 a 9;buyer 0 a 100";
        quote("Strategic waiting. Let s be the surplus of the best batch for a strategic buyer on day d.");
        waits(falls + " patience 1 strategic 0;", 1, 1);
        waits(falls + " patience 1;", 1, -1);
        // The older batch leaves 10 today, as much as the younger one tomorrow.
        String older = "product a base 100 life 2 markdown 1 90;batch 0 a 1;batch 1 a 1;buyer 1 a 100 patience 5";
        waits(older + " strategic 0;", 2, -1);
        waits(older.replace("batch 0 a 1;", "") + " strategic 0;", 2, 2);
        quote("For each later day e up to the leaving day,");
        String third = "product a base 100 life 9 markdown 3 90;batch 0 a 9;buyer 0 a 100 strategic 0;";
        waits(third.replace(" strategic", " patience 3 strategic"), 1, 3);
        waits(third.replace(" strategic", " patience 2 strategic"), 1, -1);
        waits(third.replace(" strategic", " patience 4 strategic"), 3, 3);
        waits(third, 1, -1);
        MarkdownMarket on = Check.market(third.replace(" strategic", " patience 3 strategic"), 4);
        Check.same("on the leaving day no later day is left", on.buyer(0, 5) * 1000 + on.buyer(0, 4), 3090);
        quote("The buyer prefers to wait if the expectation for some day e is greater than s.");
        waits(falls + " patience 1 strategic 9;", 1, 1);
        waits(falls + " patience 1 strategic 10;", 1, -1);
        waits(falls + " patience 1 strategic 11;", 1, -1);
        waits("product a base 100 life 9;batch 0 a 9;buyer 0 a 100 patience 9 strategic 0;", 1, -1);
        waits("product a base 100 life 9 markdown 1 100 markdown 2 99;batch 0 a 9;buyer 0 a 100 patience 2 strategic 0;",
                1, 2);
    }

    private static void expectation() {
        quote("the expectation is the greatest surplus that any batch of the product with free units would have on day e,");
        String old = "product a base 100 life 9 markdown 2 50;product b base 100 life 9 markdown 1 0;batch 0 a 1;batch 1 a 1;"
                + "batch 1 b 1;buyer 0 a 100 hold 9;buyer 1 a 100 patience 1 strategic 0;";
        waits(old, 2, -1);
        waits(old.replace("batch 0 a 1;", "batch 0 a 2;"), 2, 2);
        // Two batches get cheaper: on day 2 it is the older one that leaves more, at more days of age.
        String both = "product a base 100 life 9 markdown 1 90 markdown 2 50;batch 0 a 1;batch 1 a 1;"
                + "buyer 1 a 120 patience 1 strategic 0 stale ";
        waits(both + "9;", 2, 2);
        waits(both + "40;", 2, -1);
        String none = "product a base 100 life 9;batch 0 a 1;batch 1 a 9;buyer 0 a 100 patience 9 strategic 0;";
        waits(none, 1, -1);
        quote("of those that would still be within their shelf life then,");
        String life = "product a base 100 life 3 markdown 2 50;batch 0 a 1;buyer 0 a 100 patience 9 strategic 0;";
        waits(life, 1, 2);
        waits(life.replace("life 3", "life 2"), 1, -1);
        waits(life.replace("life 3", "life 60").replace("markdown 2", "markdown 30"), 1, -1);
        waits(life.replace("life 3", "life 60").replace("markdown 2", "markdown 30").replace("patience 9", "patience 30"),
                1, 30);
        quote("as if nobody bought anything,");
        MarkdownMarket last = Check.market("product a base 100 life 9 markdown 1 50;batch 0 a 2;"
                + "buyer 0 a 100 patience 3 strategic 0;buyer 0 a 100;buyer 0 a 100;buyer 0 a 100;", 1);
        states(last, 1, 3, 3, 4);
        Check.same("nothing is left to wait for", last.waitsFor(0), -1);
        MarkdownMarket yet = Check.market("product a base 100 life 9 markdown 1 50;batch 0 a 1;"
                + "buyer 0 a 100 patience 3 strategic 0;buyer 1 a 100;", 1);
        Check.same("though another one will come", yet.waitsFor(0), 1);
        quote("minus the waiting cost times (e - d).");
        String third = "product a base 100 life 9 markdown 3 50;batch 0 a 1;buyer 0 a 100 patience 9 strategic ";
        waits(third + "16;", 1, 3);
        waits(third + "17;", 1, -1);
        waits(third + "99;", 1, -1);
        waits(third.replace("batch 0", "batch 2").replace("buyer 0", "buyer 2") + "16;", 3, 5);
        waits(third.replace("batch 0", "batch 2").replace("buyer 0", "buyer 2") + "17;", 3, -1);
        waits(third.replace("buyer 0", "buyer 1") + "24;", 2, 3);
        waits(third.replace("buyer 0", "buyer 1") + "25;", 2, -1);
    }

    private static void askedBuyer() {
        quote("Each waiting buyer who is asked does the following. Without a best batch, the buyer stays waiting.");
        MarkdownMarket none = Check.market("product a base 100 life 9 markdown 1 99;batch 0 a 1;buyer 0 a 99 patience 9;"
                + "buyer 0 a 99 patience 9 hold 1;buyer 0 a 99 patience 9 strategic 0;", 1);
        states(none, 1, 1, 1);
        events(none, "0,0,0,1");
        none.run(1);
        states(none, 3, 1, 1);
        quote("A strategic buyer who prefers to wait stays waiting.");
        MarkdownMarket waits = Check.market("product a base 100 life 9 markdown 1 99;batch 0 a 9;"
                + "buyer 0 a 100 patience 1 strategic 0;buyer 0 a 100 patience 1 strategic 0 hold 1;", 1);
        states(waits, 1, 1);
        events(waits, "0,0,0,9");
        waits.run(1);
        states(waits, 3, 2);
        events(waits, "0,0,0,9 1,1,0,99 1,2,1,99");
        quote("Any other buyer buys a unit of the best batch at its price.");
        MarkdownMarket buys = Check.market("product a base 100 life 9 markdown 1 0;batch 0 a 2;buyer 0 a 100;buyer 0 a 100;"
                + "buyer 0 a 100;buyer 1 a 0;", 1);
        events(buys, "0,0,0,2 0,1,0,100 0,1,1,100 0,6,2,100");
        Check.same("none is free", buys.figure(0, 2), 0);
        MarkdownMarket free = Check.market("product a base 100 life 9 markdown 1 0;batch 0 a 2;buyer 1 a 0;", 2);
        events(free, "0,0,0,2 1,1,0,0");
        Check.same("paid", free.buyer(0, 4), 0);
    }

    private static void beginOfHold() {
        quote("Otherwise a buyer who reserves begins a hold on a unit of the best batch: the unit is held (not free any "
                + "more) at the present price,");
        MarkdownMarket m = Check.market("fee 0;product a base 100 life 9 markdown 1 55;batch 0 a 1;buyer 1 a 55 hold 1;"
                + "buyer 1 a 99;", 2);
        events(m, "0,0,0,1 1,2,0,55 1,6,1,99");
        Check.same("held", m.figure(0, 3) * 10 + m.figure(0, 2), 10);
        Check.same("price", m.hold(0, 2), 55);
        m.setBase(0, 9999);
        Check.same("the price stays", m.hold(0, 2), 55);
        quote("the buyer pays the deposit, which is the fee in percent of the price, rounded down,");
        int[][] cases = {{99, 1, 0}, {100, 1, 1}, {199, 50, 99}, {9999, 99, 9899}, {9999, 100, 9999}, {9999, 0, 0},
            {1, 100, 1}, {1, 99, 0}};
        for (int[] c : cases) {
            MarkdownMarket d = Check.market("fee " + c[1] + ";product a base " + c[0] + " life 9;batch 0 a 1;"
                    + "buyer 0 a 9999 hold 9;", 1);
            Check.same(c[1] + " percent of " + c[0], d.hold(0, 3), c[2]);
            Check.same("paid", d.buyer(0, 4), c[2]);
        }
        quote("and the hold ends on the present day plus the number of days.");
        MarkdownMarket ends = Check.market("product a base 10 life 60;batch 0 a 9;buyer 1 a 10 hold 1;buyer 1 a 10 hold 9;", 2);
        Check.same("one day", ends.hold(0, 4), 2);
        Check.same("nine days", ends.hold(1, 4), 10);
        ends.run(1);
        states(ends, 3, 2);
        ends.run(7);
        states(ends, 3, 2);
        ends.run(1);
        states(ends, 3, 3);
    }

    private static void dayBegins() {
        quote("A day. These things happen in this order on a day: 1. The number of the present day increases by 1.");
        MarkdownMarket m = Check.market("product a base 10 life 1;batch 0 a 1;batch 1 a 1;buyer 0 a 10 hold 1;buyer 1 a 10;"
                + "buyer 1 a 9;buyer 1 a 12;", 2);
        events(m, "0,0,0,1 0,2,0,10 1,5,0,1 1,6,0,10 1,0,1,1 1,1,1,10 1,6,2,9 1,6,3,12");
        Check.same("day", m.day(), 1);
    }

    private static void discards() {
        quote("2. Each delivered batch, in ascending order, whose age is equal to its shelf life or greater: its free "
                + "units are discarded;");
        MarkdownMarket longest = Check.market("product a base 10 life 60;batch 0 a 5;", 60);
        Check.same("at age 59", longest.figure(0, 2) * 10 + longest.figure(0, 4), 50);
        longest.run(1);
        Check.same("at age 60", longest.figure(0, 2) * 10 + longest.figure(0, 4), 5);
        events(longest, "0,0,0,5 60,5,0,5");
        MarkdownMarket shortest = Check.market("product a base 10 life 1;batch 0 a 5;", 1);
        Check.same("at age 0", shortest.figure(0, 2) * 10 + shortest.figure(0, 4), 50);
        shortest.run(1);
        Check.same("at age 1", shortest.figure(0, 2) * 10 + shortest.figure(0, 4), 5);
        shortest.run(9);
        events(shortest, "0,0,0,5 1,5,0,5");
        MarkdownMarket order = Check.market("product a base 10 life 2;product b base 10 life 3;batch 1 a 1;batch 0 b 2;"
                + "batch 1 a 3;", 4);
        events(order, "0,0,1,2 1,0,0,1 1,0,2,3 3,5,0,1 3,5,1,2 3,5,2,3");
        quote("its held units are discarded as well, in the order in which their holds began: the buyer gets the deposit "
                + "back and leaves.");
        MarkdownMarket held = Check.market("fee 100;product a base 10 life 2;batch 0 a 4;buyer 1 a 11 hold 9;"
                + "buyer 0 a 12 hold 9;buyer 0 a 13 hold 2;buyer 1 a 14 hold 1;", 3);
        events(held, "0,0,0,4 0,2,1,10 0,2,2,10 1,2,0,10 1,2,3,10 2,5,0,4 2,6,1,12 2,6,2,13 2,6,0,11 2,6,3,14");
        for (int i = 0; i < 4; i++) {
            Check.same("deposit of buyer " + i, held.buyer(i, 4) + held.buyer(i, 5), 2);
            Check.same("state of buyer " + i, held.buyerState(i), 4);
        }
        Check.same("holds", held.holds() + held.figure(0, 3) + held.income(), 0);
        MarkdownMarket other = Check.market("product a base 10 life 2;batch 0 a 1;batch 1 a 1;buyer 0 a 10 hold 9;"
                + "buyer 1 a 10 hold 9;", 3);
        Check.same("a hold on another batch stays", other.holds() * 10 + other.hold(0, 0), 11);
    }

    private static void deliveries() {
        quote("3. The batches of this day are delivered, in ascending order; their units are free.");
        MarkdownMarket m = Check.market("product a base 10 life 1;product b base 10 life 1;batch 1 b 50;batch 0 a 1;"
                + "batch 1 a 2;batch 2 a 3;batch 1 b 4;", 2);
        events(m, "0,0,1,1 1,5,1,1 1,0,0,50 1,0,2,2 1,0,4,4");
        Check.same("free", m.figure(1, 2), 54);
        Check.same("not those of the next day", m.figure(0, 2), 2);
        MarkdownMarket same = Check.market("product a base 10 life 1;buyer 0 a 10;batch 0 a 1;", 1);
        events(same, "0,0,0,1 0,1,0,10");
    }

    private static final String HOLDER = "fee 20;product a base 50 life 10;batch 0 a 1;";

    private static void endOfHold() {
        quote("4. The holds that end on this day, in the order in which they began:");
        MarkdownMarket order = Check.market("product a base 10 life 9;batch 0 a 9;buyer 1 a 10 hold 1;buyer 0 a 10 hold 2;"
                + "buyer 1 a 10 hold 2;buyer 0 a 10 hold 1;", 3);
        events(order, "0,0,0,9 0,2,1,10 0,2,3,10 1,3,3,10 1,2,0,10 1,2,2,10 2,3,1,10 2,3,0,10");
        Check.same("one ends later", order.holds(), 1);
        order.run(1);
        Check.same("it has ended", order.holds(), 0);
        quote("let r be the value of the buyer minus the price of the hold, plus the deposit, minus the penalty times the "
                + "age of the batch.");
        // 50 - 50 + 10 - 10 * 1, with one part of it changed by 1
        String[] texts = {"buyer 0 a 50 stale 10 hold 1;", "buyer 0 a 51 stale 11 hold 1;", "buyer 0 a 50 stale 5 hold 2;",
            "buyer 0 a 50 stale 11 hold 1;", "buyer 0 a 51 stale 12 hold 1;", "buyer 0 a 50 stale 4 hold 3;"};
        int[] last = {1, 1, 2, 1, 1, 3};
        int[] states = {3, 3, 3, 4, 4, 4};
        for (int i = 0; i < texts.length; i++) {
            Check.same(texts[i], Check.market(HOLDER + texts[i], last[i] + 1).buyerState(0), states[i]);
        }
        Check.same("a lower fee", Check.market(HOLDER.replace("20", "18") + texts[0], 2).buyerState(0), 4);
        MarkdownMarket later = Check.market(HOLDER + texts[0], 1);
        later.setFee(0);
        later.setBase(0, 9999);
        later.run(1);
        Check.same("neither the later fee nor the later price", later.buyerState(0), 3);
        MarkdownMarket waited = Check.market(HOLDER.replace("batch 0", "batch 1") + "buyer 0 a 50 patience 9 stale 10 hold 1;", 3);
        Check.same("the age of the batch, not the days since the arrival", waited.buyerState(0), 3);
    }

    private static void kept() {
        quote("If r is 0 or more,");
        Check.same("0", Check.market(HOLDER + "buyer 0 a 50 stale 10 hold 1;", 2).buyerState(0), 3);
        Check.same("-1", Check.market(HOLDER + "buyer 0 a 50 stale 11 hold 1;", 2).buyerState(0), 4);
        Check.same("0 with a free hold", Check.market(HOLDER.replace("20", "0") + "buyer 0 a 50 hold 9;", 10).buyerState(0), 3);
        quote("and not less than the surplus of the best batch for the buyer");
        // The new unit leaves 10; the held one leaves 20 - 10 and 20 - 11.
        String two = HOLDER + "batch 1 a 1;buyer 0 a 60 stale ";
        events(Check.market(two + "10 hold 1;", 2), "0,0,0,1 0,2,0,50 1,0,1,1 1,3,0,50");
        events(Check.market(two + "11 hold 1;", 2), "0,0,0,1 0,2,0,50 1,0,1,1 1,4,0,10 1,1,0,50");
        events(Check.market(two + "9 hold 1;", 2), "0,0,0,1 0,2,0,50 1,0,1,1 1,3,0,50");
        quote("(if there is one; the held unit does not count as free),");
        // The held unit would now cost 5, and leave more than r.
        String cheaper = "fee 20;product a base 50 life 9 markdown 1 10;batch 0 a 1;buyer 0 a 50 stale 10 hold 1;";
        events(Check.market(cheaper, 2), "0,0,0,1 0,2,0,50 1,3,0,50");
        events(Check.market(cheaper.replace("batch 0 a 1;", "batch 0 a 2;"), 2), "0,0,0,2 0,2,0,50 1,4,0,10 1,1,0,5");
        quote("the buyer buys the held unit at the price of the hold, of which the deposit is a part.");
        for (int fee : new int[] {0, 33, 100}) {
            MarkdownMarket m = Check.market(HOLDER.replace("20", String.valueOf(fee)) + "buyer 0 a 50 hold 9;", 9);
            Check.same("deposit", m.buyer(0, 4), 50 * fee / 100);
            m.run(1);
            Check.same("paid", m.buyer(0, 4), 50);
            Check.same("revenue", m.figure(0, 5), 50);
            Check.same("income", m.income(), 50);
            Check.same("held", m.figure(0, 3) + m.figure(0, 2), 0);
            Check.same("batch", m.buyer(0, 6), 0);
            Check.same("last event's price", m.event(m.events() - 1, 3), 50);
        }
    }

    private static void cancelled() {
        quote("Otherwise the hold is cancelled: the deposit is forfeited, and the unit is free again;");
        MarkdownMarket m = Check.market(HOLDER + "buyer 0 a 50 stale 11 hold 1;", 2);
        Check.same("forfeited", m.figure(0, 6), 10);
        Check.same("revenue", m.figure(0, 5), 0);
        Check.same("free", m.figure(0, 2) * 10 + m.figure(0, 3), 10);
        Check.same("paid", m.buyer(0, 4), 10);
        Check.same("holds", m.holds(), 0);
        events(Check.market(HOLDER.replace("20", "1") + "buyer 0 a 50 stale 11 hold 1;", 2),
                "0,0,0,1 0,2,0,50 1,4,0,0 1,6,0,50");
        MarkdownMarket next = Check.market(HOLDER + "buyer 0 a 50 stale 11 hold 1;buyer 1 a 50;", 2);
        Check.same("for a buyer of this day", next.buyerState(1), 3);
        MarkdownMarket holder = Check.market("fee 0;product a base 50 life 9 markdown 1 10;batch 0 a 2;"
                + "buyer 0 a 50 stale 1 hold 1;buyer 0 a 50 hold 1;", 2);
        events(holder, "0,0,0,2 0,2,0,50 0,2,1,50 1,4,0,0 1,6,0,50 1,4,1,0 1,1,1,5");
        quote("if there was a best batch (before the unit became free), the buyer buys a unit of it at its price, otherwise "
                + "the buyer leaves.");
        MarkdownMarket leaves = Check.market("fee 0;product a base 50 life 9 markdown 1 10;batch 0 a 1;"
                + "buyer 0 a 50 patience 9 stale 1 hold 1;", 2);
        events(leaves, "0,0,0,1 0,2,0,50 1,4,0,0 1,6,0,50");
        Check.same("not of the unit that became free", leaves.figure(0, 2), 1);
        MarkdownMarket buys = Check.market("fee 20;product a base 50 life 9 markdown 1 10;batch 0 a 2;"
                + "buyer 0 a 50 stale 11 hold 1;", 2);
        events(buys, "0,0,0,2 0,2,0,50 1,4,0,10 1,1,0,5");
        Check.same("paid", buys.buyer(0, 4), 15);
        Check.same("one is left", buys.figure(0, 2) * 10 + buys.figure(0, 3), 10);
        // A strategic buyer does not wait again, and a reserving one does not hold again.
        MarkdownMarket again = Check.market("fee 0;product a base 50 life 9 markdown 1 50 markdown 2 10;batch 0 a 1;"
                + "batch 1 a 1;buyer 0 a 50 strategic 99 stale 1 hold 1;", 2);
        events(again, "0,0,0,1 0,2,0,50 1,0,1,1 1,4,0,0 1,1,0,50");
    }

    private static void endOfDay() {
        quote("5. The buyers of this day arrive, in ascending order, and become the last waiting buyers.");
        MarkdownMarket m = Check.market("product a base 50 life 9;buyer 1 a 9 patience 9;buyer 0 a 9 patience 9;"
                + "buyer 1 a 9 patience 9;buyer 0 a 9 patience 9;buyer 2 a 9 patience 9;", 2);
        int[] due = {1, 3, 0, 2};
        for (int i = 0; i < due.length; i++) {
            Check.same("waiting buyer " + i, m.waitingBuyer(i), due[i]);
        }
        Check.same("those of the next day have not arrived", m.waiting() * 10 + m.buyerState(4), 40);
        quote("6. Each waiting buyer, in the order of arrival, is asked.");
        MarkdownMarket asked = Check.market("product a base 50 life 9 markdown 1 40;batch 0 a 2;buyer 1 a 50;"
                + "buyer 0 a 40 patience 1;buyer 1 a 50;buyer 0 a 39 patience 1;", 2);
        events(asked, "0,0,0,2 1,1,1,20 1,1,3,20 1,6,0,50 1,6,2,50");
        quote("7. Each buyer who is still waiting and whose leaving day is the present day or earlier leaves.");
        MarkdownMarket leaves = Check.market("product a base 50 life 9;batch 0 a 1;buyer 0 a 9;buyer 0 a 9 patience 1;"
                + "buyer 0 a 50 hold 9;buyer 1 a 9;buyer 0 a 9 patience 1;", 1);
        states(leaves, 4, 1, 2, 0, 1);
        leaves.run(1);
        states(leaves, 4, 4, 2, 4, 4);
        events(leaves, "0,0,0,1 0,2,2,50 0,6,0,9 1,6,1,9 1,6,4,9 1,6,3,9");
        MarkdownMarket still = Check.market("product a base 50 life 9;batch 1 a 1;buyer 0 a 50 patience 1;", 2);
        Check.same("on the leaving day the buyer is asked first", still.buyerState(0), 3);
    }
}
