import java.util.NoSuchElementException;

/** Promises 48 to 53: events, the report and the saved state. */
final class RecordTest {
    private static final Class<NoSuchElementException> NO_ELEMENT = NoSuchElementException.class;
    private static final Class<IllegalArgumentException> ARGUMENT = IllegalArgumentException.class;

    private RecordTest() {
    }

    public static void main(String[] args) {
        events();
        latestEvents();
        report();
        saveState();
        restoreState();
        restoresSumsAndEvents();
        loadsOverAFuture();
        Check.finish("RecordTest");
    }

    private static void events() {
        MarkdownMarket m = Check.market("fee 50;product a base 10 life 2;batch 0 a 5;buyer 0 a 12;buyer 0 a 13 hold 1;"
                + "buyer 0 a 8;buyer 0 a 10 stale 6 hold 1;buyer 0 a 11 hold 9;");
        Check.same("48 none", m.events(), 0);
        Check.fails("49 none", NO_ELEMENT, () -> m.event(0, 0));
        m.run(3);
        // each of the seven kinds
        Check.same("49 all kinds", Check.events(m), "0,0,0,5 0,1,0,10 0,2,1,10 0,2,3,10 0,2,4,10 0,6,2,8 "
                + "1,3,1,10 1,4,3,5 1,6,3,10 2,5,0,3 2,6,4,11");
        Check.same("48 number", m.events(), 11);
        Check.fails("49 behind the last", NO_ELEMENT, () -> m.event(11, 9));
        Check.fails("49 before the first", NO_ELEMENT, () -> m.event(-1, 0));
        Check.fails("49 property", ARGUMENT, () -> m.event(0, 4));
        Check.fails("49 negative property", ARGUMENT, () -> m.event(10, -1));
    }

    private static void latestEvents() {
        MarkdownMarket m = Check.market("product a base 10 life 1;" + "batch 0 a 1;".repeat(19), 1);
        Check.same("48 19 events", m.events(), 19);
        m.discard(0);
        Check.same("48 20 events", m.events(), 20);
        Check.same("49 the oldest one", m.event(0, 2), 0);
        m.discard(2);
        Check.same("48 not more than 20", m.events(), 20);
        Check.same("49 the oldest one is gone", m.event(0, 2), 1);
        Check.same("49 the latest one", m.event(19, 1), 5);
        Check.same("49 and its batch", m.event(19, 2), 2);
        Check.same("49 and the one before", m.event(18, 2), 0);
        Check.fails("49 a 21st", NO_ELEMENT, () -> m.event(20, 0));
        m.run(1);
        Check.same("48 still 20", m.events(), 20);
        Check.same("49 17 new ones", m.event(2, 2), 2);
        Check.same("49 of day 1", m.event(3, 0), 1);
        Check.same("49 of batch 1", m.event(3, 2), 1);
    }

    private static void report() {
        MarkdownMarket m = Check.market("product milk base 100 life 3;product egg base 7 life 3;batch 0 milk 12;"
                + "batch 1 egg 50;batch 1 egg 50;buyer 0 milk 120;buyer 0 milk 100 hold 1;");
        Check.same("51 nothing is written", m.outputByte(0), -1);
        Check.same("50 at first", m.printReport(), "milk:0/0 0;egg:0/0 0;".length());
        Check.same("51 at first", Check.output(m), "milk:0/0 0;egg:0/0 0;");
        m.run(2);
        Check.same("51 the output stays", Check.output(m), "milk:0/0 0;egg:0/0 0;");
        String due = "milk:2/12 200;egg:0/100 0;";
        Check.same("50 length", m.printReport(), due.length());
        Check.same("51 bytes", Check.output(m), due);
        Check.same("51 first byte", m.outputByte(0), 'm');
        Check.same("51 last byte", m.outputByte(due.length() - 1), ';');
        Check.same("51 behind it", m.outputByte(due.length()), -1);
        Check.same("51 before the first", m.outputByte(-1), -1);
        Check.same("51 far off", m.outputByte(Integer.MAX_VALUE), -1);
        Check.same("51 far off before", m.outputByte(Integer.MIN_VALUE), -1);
        m.saveState();
        Check.load(m, "product a base 1 life 1;");
        Check.same("50 shorter", m.printReport(), 8);
        Check.same("51 in place of what it had", Check.output(m), "a:0/0 0;");
        Check.load(m, "");
        Check.same("50 no products", m.printReport(), 0);
        Check.same("51 no bytes", m.outputByte(0), -1);
    }

    private static final String TEXT = "fee 50;product a base 40 life 3 markdown 2 50;batch 0 a 4;batch 2 a 1;"
            + "buyer 0 a 45;buyer 0 a 45 hold 1;buyer 0 a 30 patience 5;buyer 3 a 90;";

    private static void saveState() {
        MarkdownMarket m = Check.market(TEXT);
        Check.same("52 before the first day", m.saveState(), -1);
        m.run(2);
        Check.same("52 present day", m.saveState(), 1);
        m.run(1);
        Check.same("53 the later save counts", m.restoreState(), 1);
        MarkdownMarket empty = new MarkdownMarket();
        Check.same("52 an empty market", empty.saveState(), -1);
        empty.run(3);
        Check.same("53 an empty market", empty.restoreState(), -1);
    }

    private static void restoreState() {
        MarkdownMarket m = Check.market(TEXT);
        Check.fails("53 no state", IllegalStateException.class, m::restoreState);
        m.run(1);
        m.saveState();
        m.printReport();
        for (int round = 0; round < 2; round++) {
            changeAll(m);
            Check.same("53 day", m.restoreState(), 0);
            stateIsThatOfDay0(m);
        }
        Check.same("53 output stays", m.outputByte(0), 'a');
        Check.same("53 output is of the changed market", Check.output(m), "a:3/5 100;");
        Check.same("53 input stays", m.truncateInput(4), true);
        Check.same("53 error stays", m.errorCode(), 1);
        Check.same("53 offset stays", m.errorOffset(), 7);
        Check.same("53 it goes on", m.run(4), 3);
    }

    private static void changeAll(MarkdownMarket m) {
        m.run(2);
        m.printReport();
        m.setFee(1);
        m.setBase(0, 9000);
        m.markDown(0, 1, 3);
        m.removeStep(0, 2);
        m.addBuyer(0, 5, 0, -1, 0, 0);
        m.addBatch(0, 7);
        m.discard(0);
        m.run(1);
        Check.load(m, "fee 1; ;");
        Check.put(m, "fee ");
    }

    private static void stateIsThatOfDay0(MarkdownMarket m) {
        int[] due = {4, 1, 2, 1, 0, 40, 0, 40, 3, 3, 0};
        for (int i = 0; i < due.length; i++) {
            Check.same("53 figure " + i, m.figure(0, i), due[i]);
        }
        Check.same("53 day again", m.day(), 0);
        Check.same("53 events", Check.events(m), "0,0,0,4 0,1,0,40 0,2,1,40");
        Check.same("53 buyers", m.buyers(), 4);
        Check.same("53 state of the buyer", m.buyerState(0), 3);
        Check.same("53 state of the holder", m.buyerState(1), 2);
        Check.same("53 waiting", m.waiting(), 1);
        Check.same("53 waiting buyer", m.waitingBuyer(0), 2);
        Check.same("53 holds", m.holds(), 1);
        Check.same("53 deposit", m.hold(0, 3), 20);
        Check.same("53 ladder", m.percentAt(0, 1), 100);
        Check.same("53 ladder again", m.percentAt(0, 2), 50);
        Check.same("53 fee", m.setFee(50), 50);
        Check.fails("53 batches", IndexOutOfBoundsException.class, () -> m.discard(2));
    }

    private static void restoresSumsAndEvents() {
        MarkdownMarket m = Check.market("fee 50;product a base 40 life 3;batch 0 a 8;batch 1 a 9;batch 2 a 1;batch 3 a 1;"
                + "buyer 0 a 45;buyer 0 a 40 stale 30 hold 1;buyer 1 a 44 hold 1;buyer 1 a 99;buyer 2 a 99;buyer 3 a 99;"
                + "buyer 3 a 3;buyer 3 a 4;buyer 3 a 5;buyer 4 a 6;buyer 4 a 7;buyer 4 a 8;", 2);
        m.discard(0);
        String events = Check.events(m);
        int[] figures = {17, 3, 8, 1, 5, 120, 20, 40, 3, 4, 0};
        m.saveState();
        m.run(9);
        Check.same("53 another age", m.meanSoldAge(0) == 1f / 3f, false);
        Check.same("53 the log is full", m.events(), 20);
        m.restoreState();
        Check.same("53 events as they were", Check.events(m), events);
        for (int i = 0; i < figures.length; i++) {
            Check.same("53 sum " + i, m.figure(0, i), figures[i]);
        }
        Check.same("53 mean age", m.meanSoldAge(0), 1f / 3f);
        Check.same("53 paid by a buyer who will buy", m.buyer(2, 4), 20);
        Check.same("53 paid by a buyer to come", m.buyer(4, 4), 0);
        m.saveState();
        m.run(1);
        Check.same("53 paid when bought", m.buyer(2, 4), 40);
        m.restoreState();
        Check.same("53 paid while holding", m.buyer(2, 4), 20);
    }

    /** Whatever a market has been through, the next one begins anew. */
    private static void loadsOverAFuture() {
        MarkdownMarket m = Check.market("fee 50;product a base 40 life 3 markdown 1 50;batch 0 a 8;buyer 0 a 45 hold 1;"
                + "buyer 0 a 4 patience 9;buyer 0 a 45 hold 2;buyer 0 a 40 stale 50 hold 1;buyer 1 a 30;buyer 3 a 99;", 1);
        m.saveState();
        m.run(4);
        m.bestPercent(0, 12);
        m.restoreState();
        Check.same("43 units and holds are left in that future", m.daysToSellOut(0, 1), -1);
        Check.load(m, "product b base 7 life 5;batch 0 b 3;buyer 0 b 8 patience 3;buyer 2 b 3 patience 9;");
        Check.same("4 day", m.day(), -1);
        int[] figures = {0, 0, 0, 0, 0, 0, 0, 7, 5, 0, 0};
        for (int i = 0; i < figures.length; i++) {
            Check.same("4 figure " + i, m.figure(0, i), figures[i]);
        }
        Check.same("4 ladder", m.percentAt(0, 59), 100);
        Check.same("4 mean age", m.meanSoldAge(0), 0f);
        int[] buyer = {0, 8, 0, 3, 0, -1, -1};
        for (int i = 0; i < buyer.length; i++) {
            Check.same("4 buyer's property " + i, m.buyer(0, i), buyer[i]);
        }
        Check.same("4 state", m.buyerState(0), 0);
        Check.same("4 waiting", m.waiting(), 0);
        Check.same("4 holds", m.holds(), 0);
        Check.same("4 events", m.events(), 0);
        Check.same("4 batches", m.batches(0), 0);
        m.run(3);
        Check.same("4 it goes its way", Check.events(m), "0,0,0,3 0,1,0,7");
        Check.same("4 mean age of the first day", m.meanSoldAge(0), 0f);
        Check.same("4 waiting buyer", m.waitingBuyer(0), 1);
    }
}
