/** Calls with a number at the ends of its range, and beyond them. */
final class Edge {
    static final Class<IndexOutOfBoundsException> INDEX = IndexOutOfBoundsException.class;
    static final Class<IllegalArgumentException> ARGUMENT = IllegalArgumentException.class;
    static final Class<IllegalStateException> STATE = IllegalStateException.class;
    static final Class<java.util.NoSuchElementException> NO_ELEMENT = java.util.NoSuchElementException.class;

    interface Call {
        void make(int number);
    }

    private Edge() {
    }

    /** Both ends are answered. */
    static void takes(int least, int most, Call call) {
        Check.answers("with " + least, () -> call.make(least));
        Check.answers("with " + most, () -> call.make(most));
    }

    /** Whatever lies beyond the ends is refused, and nothing is changed by that. */
    static void refuses(MarkdownMarket market, Class<? extends RuntimeException> due, int least, int most, Call call) {
        for (int number : new int[] {Integer.MIN_VALUE, least - 1, most + 1, Integer.MAX_VALUE}) {
            refuses(market, "with " + number, due, () -> call.make(number));
        }
    }

    static void refuses(MarkdownMarket market, String what, Class<? extends RuntimeException> due, Check.Call call) {
        String before = Picture.of(market) + Picture.ofTheRest(market);
        Check.fails(what, due, call);
        Check.same(what + ", nothing is changed", Picture.of(market) + Picture.ofTheRest(market), before);
    }

    /** From now on the two markets answer alike, whatever each of them has been through before. */
    static void goTheSameWay(MarkdownMarket one, MarkdownMarket other, int days) {
        for (int i = 0; i <= days; i++) {
            Check.same("on day " + one.day(), Picture.of(one), Picture.of(other));
            Check.same("future from day " + one.day(), Picture.ofTheFuture(one), Picture.ofTheFuture(other));
            Check.same("units bought", one.run(1), other.run(1));
        }
    }
}
