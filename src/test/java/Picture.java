/** All that can be seen of a market without changing it, as text: two pictures are equal if nothing has changed. */
final class Picture {
    private Picture() {
    }

    static String of(MarkdownMarket market) {
        StringBuilder text = new StringBuilder();
        put(text, "day", market.day(), market.income(), market.welfare(), market.hindsight(), market.mostServed(),
                market.regret());
        int fee = market.setFee(0);
        market.setFee(fee);
        put(text, "fee", fee);
        for (int i = 0; i < market.products(); i++) {
            putProduct(text, market, i);
        }
        for (int i = 0; i < market.buyers(); i++) {
            putBuyer(text, market, i);
        }
        for (int i = 0; i < market.waiting(); i++) {
            put(text, "waiting", market.waitingBuyer(i));
        }
        for (int i = 0; i < market.holds(); i++) {
            put(text, "hold", market.hold(i, 0), market.hold(i, 1), market.hold(i, 2), market.hold(i, 3),
                    market.hold(i, 4));
        }
        return text.append(" events ").append(Check.events(market)).toString();
    }

    /** Of the text that is put in, the error and the output, which no saved state keeps. */
    static String ofTheRest(MarkdownMarket market) {
        StringBuilder text = new StringBuilder();
        put(text, "input", inputLength(market));
        put(text, "error", market.errorCode(), market.errorOffset());
        return text.append(" output ").append(Check.output(market)).toString();
    }

    /** What the questions about the future answer. */
    static String ofTheFuture(MarkdownMarket market) {
        StringBuilder text = new StringBuilder();
        for (int i = 0; i < market.products(); i++) {
            put(text, "future of " + i, market.bestPercent(i, 1), market.bestPercent(i, 5), market.bestPercent(i, 12),
                    market.daysToSellOut(i, 60));
        }
        return text.toString();
    }

    static int inputLength(MarkdownMarket market) {
        int length = 1200;
        while (!market.truncateInput(length)) {
            length--;
        }
        return length;
    }

    private static void putProduct(StringBuilder text, MarkdownMarket market, int product) {
        put(text, "product", product);
        for (int what = 0; what <= 10; what++) {
            put(text, "", market.figure(product, what));
        }
        for (int age = 0; age < 60; age++) {
            put(text, "", market.percentAt(product, age));
        }
        for (int i = 0; i < market.batches(product); i++) {
            put(text, "batch", market.batch(product, i, 0), market.batch(product, i, 1), market.batch(product, i, 2),
                    market.batch(product, i, 3), market.batch(product, i, 4), market.batch(product, i, 5));
        }
        text.append(' ').append(market.meanSoldAge(product)).append(' ').append(market.wasteShare(product));
        put(text, "", market.expiring(product), market.demand(product, 0), market.bestFixedPrice(product));
    }

    private static void putBuyer(StringBuilder text, MarkdownMarket market, int buyer) {
        put(text, "buyer", buyer, market.buyerState(buyer));
        for (int what = 0; what <= 6; what++) {
            put(text, "", market.buyer(buyer, what));
        }
        put(text, "", market.bestBatch(buyer), market.bestSurplus(buyer), market.waitsFor(buyer));
    }

    private static void put(StringBuilder text, String name, int... numbers) {
        text.append(name.isEmpty() ? "" : " " + name);
        for (int number : numbers) {
            text.append(' ').append(number);
        }
    }
}
