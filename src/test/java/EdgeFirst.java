/** What stands ahead of the description: what the program is, and how long an object is used. */
final class EdgeFirst {
    private EdgeFirst() {
    }

    static void test() {
        market();
        buyers();
        hindsight();
        calls();
        fullInput();
    }

    private static void quote(String words) {
        Document.quote(Document.DESCRIPTION, words);
    }

    private static void market() {
        quote("A simulator of a market with posted prices: batches of perishable products age,");
        MarkdownMarket m = Check.market("product a base 10 life 3 markdown 1 90 markdown 2 0;batch 0 a 4;");
        for (int day = 0; day < 3; day++) {
            m.run(1);
            Check.same("age on day " + day, m.batch(0, 0, 5), day);
        }
        m.run(1);
        Check.same("perished", m.figure(0, 4), 4);
        quote("prices follow markdown ladders,");
        for (int age = 0; age < 3; age++) {
            Check.same("price at age " + age, m.priceAt(0, age), age == 0 ? 10 : age == 1 ? 9 : 0);
        }
    }

    private static void buyers() {
        quote("and buyers with limited patience buy, wait for lower prices, or reserve units;");
        MarkdownMarket m = Check.market("product a base 10 life 5 markdown 1 70;batch 0 a 9;buyer 0 a 9;buyer 0 a 10;"
                + "buyer 0 a 9 patience 1;buyer 0 a 10 patience 1 strategic 2;buyer 0 a 10 patience 1 strategic 3;"
                + "buyer 0 a 10 hold 1;", 1);
        Check.same("leaves, buys, waits, waits, buys, reserves", states(m), "431132");
        m.run(1);
        Check.same("the next day", states(m), "433333");
        Check.same("paid", paid(m), " 0 10 7 7 10 8");
    }

    private static String states(MarkdownMarket m) {
        StringBuilder text = new StringBuilder();
        for (int i = 0; i < m.buyers(); i++) {
            text.append(m.buyerState(i));
        }
        return text.toString();
    }

    private static String paid(MarkdownMarket m) {
        StringBuilder text = new StringBuilder();
        for (int i = 0; i < m.buyers(); i++) {
            text.append(' ').append(m.buyer(i, 4));
        }
        return text.toString();
    }

    private static void hindsight() {
        quote("the results are compared with an optimum in hindsight.");
        MarkdownMarket m = Check.market("product a base 10 life 5;batch 0 a 1;buyer 0 a 10;buyer 1 a 30;buyer 1 a 40;", 1);
        Check.same("at first as good", m.efficiency(), 1.0);
        m.run(1);
        Check.same("the unit was sold too soon", m.efficiency(), 10.0 / 40.0);
        Check.same("and at too low a price", m.regret(), 40 - 10);
    }

    /** The last calls answer as well as the first. */
    private static void calls() {
        quote("An object is used for at most 512 calls after it has been made;");
        MarkdownMarket m = new MarkdownMarket();
        String text = "product a base 10 life 9;fee 2;";
        Check.put(m, text);
        m.loadMarket();
        int made = 3 + (text.length() + 19) / 20;
        for (; made < 512 - 5; made++) {
            Check.same("units", m.run(60), 0);
        }
        Check.same("batch", m.addBatch(0, 1), 0);
        Check.same("buyer", m.addBuyer(0, 12, 30, -1, 0, 0), 0);
        Check.same("a unit at last", m.run(1), 1);
        Check.same("on the day of arrival", m.buyer(0, 5), (512 - 5 - 5) * 60);
        Check.same("the 512th call", m.day(), (512 - 5 - 5) * 60);
        quote("what later calls answer is free.");
        Check.answers("a 513th call", m::printReport);
    }

    /** As many full texts as so few calls can put in. */
    private static void fullInput() {
        Check.about("512 calls");
        MarkdownMarket m = new MarkdownMarket();
        for (int i = 0; i < 8; i++) {
            for (int k = 1; k <= 60; k++) {
                Check.same("length", m.appendInput(0x20202020, 0x20202020, 0x20202020, 0x20202020, 0x20202020), 20 * k);
            }
            Check.same("load", m.loadMarket(), 0);
        }
    }
}
