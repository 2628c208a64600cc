/** Promises 25 to 33: what a caller can change. */
final class ChangeTest {
    private static final Class<IndexOutOfBoundsException> INDEX = IndexOutOfBoundsException.class;
    private static final Class<IllegalArgumentException> ARGUMENT = IllegalArgumentException.class;
    private static final Class<IllegalStateException> STATE = IllegalStateException.class;
    private static final String A = "product a base 10 life 5;";

    private ChangeTest() {
    }

    public static void main(String[] args) {
        addBuyer();
        addBatch();
        setBase();
        setFee();
        markDown();
        removeStep();
        sell();
        release();
        discard();
        Check.finish("ChangeTest");
    }

    private static void addBuyer() {
        MarkdownMarket m = Check.market(A + "batch 2 a 9;buyer 5 a 1;", 2);
        Check.same("25 number", m.addBuyer(0, 9999, 30, 99, 99, 9), 1);
        Check.same("25 number again", m.addBuyer(0, 0, 0, -1, 0, 0), 2);
        Check.same("25 strategic at no cost", m.addBuyer(0, 12, 3, 0, 1, 1), 3);
        int[] due = {0, 9999, 2, 32, 0, -1, -1};
        for (int i = 0; i < due.length; i++) {
            Check.same("25 property " + i, m.buyer(1, i), due[i]);
        }
        Check.same("25 not arrived", m.buyerState(1), 0);
        Check.same("25 not arrived for the product", m.figure(0, 9), 0);
        Check.same("25 nobody buys", m.run(1), 0);
        Check.same("25 holds", m.holds(), 2);
        Check.same("25 left", m.buyerState(2), 4);
        Check.same("25 hold of a day", m.hold(1, 4), 3);
        int[][] wrong = {{-1, 0, -1, 0, 0}, {10000, 0, -1, 0, 0}, {0, -1, -1, 0, 0}, {0, 31, -1, 0, 0},
            {0, 0, -2, 0, 0}, {0, 0, 100, 0, 0}, {0, 0, -1, -1, 0}, {0, 0, -1, 100, 0}, {0, 0, -1, 0, -1}, {0, 0, -1, 0, 10}};
        for (int[] w : wrong) {
            Check.fails("25 argument", ARGUMENT, () -> m.addBuyer(0, w[0], w[1], w[2], w[3], w[4]));
            Check.fails("25 product first", INDEX, () -> m.addBuyer(1, w[0], w[1], w[2], w[3], w[4]));
        }
        Check.fails("25 negative product", INDEX, () -> m.addBuyer(-1, 0, 0, -1, 0, 0));
        Check.same("25 none added", m.buyers(), 4);
        for (int i = 4; i < 40; i++) {
            Check.same("25 up to 40", m.addBuyer(0, 5, 0, -1, 0, 0), i);
        }
        Check.fails("25 a 41st", STATE, () -> m.addBuyer(0, 5, 0, -1, 0, 0));
        Check.fails("25 argument before state", ARGUMENT, () -> m.addBuyer(0, 5, 0, -1, 0, 10));
        Check.same("25 40", m.buyers(), 40);
    }

    private static void addBatch() {
        MarkdownMarket m = Check.market(A + "batch 7 a 1;");
        Check.same("26 number", m.addBatch(0, 50), 1);
        Check.same("26 not delivered", m.figure(0, 0), 0);
        m.run(1);
        Check.same("26 delivered", m.figure(0, 2), 50);
        Check.same("26 day", m.batch(0, 0, 1), 0);
        Check.same("26 event", Check.events(m), "0,0,1,50");
        Check.same("26 number again", m.addBatch(0, 1), 2);
        m.run(1);
        Check.same("26 next day", m.batch(0, 1, 1), 1);
        Check.fails("26 no units", ARGUMENT, () -> m.addBatch(0, 0));
        Check.fails("26 too many units", ARGUMENT, () -> m.addBatch(0, 51));
        Check.fails("26 product first", INDEX, () -> m.addBatch(1, 51));
        Check.fails("26 negative product", INDEX, () -> m.addBatch(-1, 1));
        for (int i = 3; i < 24; i++) {
            Check.same("26 up to 24", m.addBatch(0, 1), i);
        }
        Check.fails("26 a 25th", STATE, () -> m.addBatch(0, 1));
        Check.fails("26 argument before state", ARGUMENT, () -> m.addBatch(0, 0));
        m.run(1);
        Check.same("26 all delivered", m.figure(0, 0), 50 + 1 + 21);
    }

    private static void setBase() {
        MarkdownMarket m = Check.market(A + "product b base 3 life 1;batch 0 a 3;buyer 0 a 10;buyer 1 a 9999 hold 1;");
        m.run(1);
        Check.same("27 previous", m.setBase(0, 9999), 10);
        Check.same("27 base", m.figure(0, 7), 9999);
        Check.same("27 price", m.batch(0, 0, 4), 9999);
        Check.same("27 other product", m.figure(1, 7), 3);
        Check.same("27 revenue stays", m.figure(0, 5), 10);
        m.run(1);
        Check.same("27 previous again", m.setBase(0, 1), 9999);
        Check.same("27 price of a hold stays", m.hold(0, 2), 9999);
        Check.fails("27 base 0", ARGUMENT, () -> m.setBase(0, 0));
        Check.fails("27 base too great", ARGUMENT, () -> m.setBase(0, 10000));
        Check.fails("27 product first", INDEX, () -> m.setBase(2, 0));
        Check.fails("27 negative product", INDEX, () -> m.setBase(-1, 1));
        Check.same("27 no change", m.figure(0, 7), 1);
    }

    private static void setFee() {
        MarkdownMarket m = Check.market(A + "batch 0 a 3;buyer 0 a 10 hold 9;buyer 1 a 10 hold 9;buyer 2 a 10 hold 9;");
        m.run(1);
        Check.same("28 previous", m.setFee(100), 10);
        m.run(1);
        Check.same("28 previous again", m.setFee(0), 100);
        m.run(1);
        Check.same("28 of the first hold", m.hold(0, 3), 1);
        Check.same("28 of the second hold", m.hold(1, 3), 10);
        Check.same("28 of the third hold", m.hold(2, 3), 0);
        Check.fails("28 negative", ARGUMENT, () -> m.setFee(-1));
        Check.fails("28 too great", ARGUMENT, () -> m.setFee(101));
        Check.same("28 no change", m.setFee(5), 0);
    }

    private static void markDown() {
        MarkdownMarket m = Check.market(A + "product b base 10 life 5;");
        Check.same("29 first", m.markDown(0, 30, 40), 1);
        Check.same("29 before it", m.markDown(0, 10, 60), 2);
        Check.same("29 between", m.markDown(0, 20, 100), 3);
        Check.same("29 the same age", m.markDown(0, 20, 50), 3);
        Check.same("29 first age", m.markDown(0, 1, 99), 4);
        Check.same("29 last age", m.markDown(0, 59, 0), 5);
        int[][] due = {{0, 100}, {1, 99}, {9, 99}, {10, 60}, {19, 60}, {20, 50}, {29, 50}, {30, 40}, {58, 40}, {59, 0}};
        for (int[] d : due) {
            Check.same("29 at age " + d[0], m.percentAt(0, d[0]), d[1]);
        }
        Check.same("29 other product", m.percentAt(1, 59), 100);
        Check.fails("29 a sixth step", STATE, () -> m.markDown(0, 40, 5));
        Check.same("29 a step of a full ladder", m.markDown(0, 30, 45), 5);
        Check.same("29 is changed", m.percentAt(0, 40), 45);
        Check.fails("29 age 0", ARGUMENT, () -> m.markDown(0, 0, 5));
        Check.fails("29 age 60", ARGUMENT, () -> m.markDown(0, 60, 5));
        Check.fails("29 negative percentage", ARGUMENT, () -> m.markDown(0, 30, -1));
        Check.fails("29 percentage", ARGUMENT, () -> m.markDown(0, 40, 101));
        Check.fails("29 product first", INDEX, () -> m.markDown(2, 0, 101));
        Check.fails("29 negative product", INDEX, () -> m.markDown(-1, 1, 1));
        Check.same("29 no change", m.percentAt(0, 40), 45);
    }

    private static void removeStep() {
        MarkdownMarket m = Check.market("product a base 10 life 5 markdown 1 90 markdown 2 80 markdown 3 70 markdown 4 60 "
                + "markdown 5 50;");
        Check.same("30 no step", m.removeStep(0, 6), false);
        Check.same("30 age 0", m.removeStep(0, 0), false);
        Check.same("30 any age", m.removeStep(0, Integer.MIN_VALUE), false);
        Check.same("30 a great age", m.removeStep(0, Integer.MAX_VALUE), false);
        Check.same("30 a step", m.removeStep(0, 2), true);
        Check.same("30 once only", m.removeStep(0, 2), false);
        int[] due = {100, 90, 90, 70, 60, 50, 50};
        for (int age = 0; age < due.length; age++) {
            Check.same("30 at age " + age, m.percentAt(0, age), due[age]);
        }
        Check.same("30 room for a step", m.markDown(0, 9, 10), 5);
        for (int age : new int[] {9, 1, 5, 4, 3}) {
            Check.same("30 all", m.removeStep(0, age), true);
        }
        Check.same("30 no ladder", m.percentAt(0, 59), 100);
        Check.same("30 nothing left", m.removeStep(0, 3), false);
        Check.fails("30 product", INDEX, () -> m.removeStep(1, 1));
        Check.fails("30 negative product", INDEX, () -> m.removeStep(-1, 1));
    }

    private static void sell() {
        String text = "product a base 100 life 5;product b base 100 life 5;batch 0 a 2;batch 0 b 1;batch 1 a 1;batch 9 a 1;"
                + "buyer 0 a 50 patience 9 stale 5;buyer 0 a 40 patience 9;buyer 0 a 100;buyer 0 b 30 patience 9;"
                + "buyer 7 a 99;buyer 0 b 9 patience 9;";
        MarkdownMarket m = Check.market(text, 2);
        Check.fails("31 a buyer who bought", STATE, () -> m.sell(2, 0, 1));
        Check.fails("31 a buyer who has not arrived", STATE, () -> m.sell(4, 0, 1));
        Check.fails("31 other product", STATE, () -> m.sell(0, 1, 1));
        Check.fails("31 not delivered", STATE, () -> m.sell(0, 3, 1));
        Check.fails("31 surplus below 0", STATE, () -> m.sell(0, 0, 46));
        Check.fails("31 buyer", INDEX, () -> m.sell(6, 0, 10000));
        Check.fails("31 negative buyer", INDEX, () -> m.sell(-1, 0, 1));
        Check.fails("31 batch", INDEX, () -> m.sell(2, 4, 10000));
        Check.fails("31 negative batch", INDEX, () -> m.sell(0, -1, 1));
        Check.fails("31 price", ARGUMENT, () -> m.sell(2, 0, 10000));
        Check.fails("31 negative price", ARGUMENT, () -> m.sell(0, 0, -1));
        Check.same("31 nothing is sold", m.figure(0, 1), 1);
        Check.same("31 surplus of 0", m.sell(0, 0, 45), 0);
        Check.fails("31 no free unit", STATE, () -> m.sell(1, 0, 1));
        Check.same("31 for nothing", m.sell(1, 2, 0), 40);
        Check.same("31 the line", m.waiting(), 2);
        Check.same("31 who waits", m.waitingBuyer(0), 3);
        Check.same("31 state", m.buyerState(0), 3);
        Check.same("31 paid", m.buyer(0, 4), 45);
        Check.same("31 day", m.buyer(0, 5), 1);
        Check.same("31 batch", m.buyer(0, 6), 0);
        Check.same("31 revenue", m.figure(0, 5), 145);
        Check.same("31 bought", m.figure(0, 1), 3);
        Check.same("31 free units", m.figure(0, 2), 0);
        Check.same("31 age", m.meanSoldAge(0), 1f / 3f);
        Check.same("31 event", m.event(m.events() - 2, 1), 1);
        Check.same("31 event's buyer", m.event(m.events() - 2, 2), 0);
        Check.same("31 event's price", m.event(m.events() - 2, 3), 45);
        Check.same("31 units bought by the days", m.run(1), 0);
    }

    private static void release() {
        MarkdownMarket m = Check.market("fee 30;" + A + "batch 0 a 2;buyer 0 a 10 hold 3;buyer 0 a 20 hold 3;buyer 0 a 5 patience 9;", 2);
        Check.fails("32 not holding", STATE, () -> m.release(2));
        Check.fails("32 buyer", INDEX, () -> m.release(3));
        Check.fails("32 negative buyer", INDEX, () -> m.release(-1));
        Check.same("32 deposit", m.release(0), 3);
        Check.fails("32 once only", STATE, () -> m.release(0));
        Check.same("32 state", m.buyerState(0), 4);
        Check.same("32 paid", m.buyer(0, 4), 0);
        Check.same("32 day", m.buyer(0, 5), 1);
        Check.same("32 no batch", m.buyer(0, 6), -1);
        Check.same("32 the other hold", m.holds(), 1);
        Check.same("32 its buyer", m.hold(0, 0), 1);
        Check.same("32 free again", m.figure(0, 2), 1);
        Check.same("32 held", m.figure(0, 3), 1);
        Check.same("32 left", m.figure(0, 10), 1);
        Check.same("32 nothing forfeited", m.figure(0, 6), 0);
        Check.same("32 event", Check.events(m), "0,0,0,2 0,2,0,10 0,2,1,10 1,6,0,10");
    }

    private static void discard() {
        MarkdownMarket m = Check.market(A + "batch 0 a 3;batch 0 a 4;batch 5 a 9;buyer 0 a 10 hold 2;", 1);
        Check.same("33 free units only", m.discard(0), 2);
        Check.same("33 none left", m.discard(0), 0);
        Check.same("33 not delivered", m.discard(2), 0);
        Check.same("33 discarded", m.figure(0, 4), 2);
        Check.same("33 held", m.figure(0, 3), 1);
        Check.same("33 free", m.figure(0, 2), 4);
        Check.same("33 the hold stays", m.buyerState(0), 2);
        Check.same("33 event", Check.events(m), "0,0,0,3 0,0,1,4 0,2,0,10 0,5,0,2");
        Check.fails("33 batch", INDEX, () -> m.discard(3));
        Check.fails("33 negative batch", INDEX, () -> m.discard(-1));
        Check.same("33 the held unit is bought", m.run(2), 1);
        m.run(3);
        Check.same("33 the other batch is delivered", m.figure(0, 0), 16);
        Check.same("33 all discarded", m.figure(0, 4), 6);
    }
}
