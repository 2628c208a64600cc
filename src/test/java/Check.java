/** What the tests share: markets made from text, and a count of the answers that are not due. */
final class Check {
    interface Call {
        void make();
    }

    private static int made = 0;
    private static int wrong = 0;
    private static String about = "";
    private static int madeBefore = 0;

    private Check() {
    }

    /** Every answer from here on is about these words; the words before must have had some. */
    static void about(String words) {
        report(about.isEmpty() || made > madeBefore, "is tested", "nothing is", "something");
        about = words;
        // The first answer after this one only tells that the words stand in the document.
        madeBefore = made + 1;
    }

    static void same(String what, long got, long due) {
        report(got == due, what, Long.toString(got), Long.toString(due));
    }

    static void same(String what, double got, double due) {
        report(got == due, what, Double.toString(got), Double.toString(due));
    }

    static void same(String what, boolean got, boolean due) {
        report(got == due, what, Boolean.toString(got), Boolean.toString(due));
    }

    static void same(String what, String got, String due) {
        report(got.equals(due), what, got, due);
    }

    /** The very class is asked for: an ArrayIndexOutOfBoundsException would come from the machine. */
    static void fails(String what, Class<? extends RuntimeException> due, Call call) {
        String got = "nothing";
        try {
            call.make();
        } catch (RuntimeException e) {
            got = e.getClass().getName();
        }
        report(got.equals(due.getName()), what, got, due.getName());
    }

    static void answers(String what, Call call) {
        String got = "an answer";
        try {
            call.make();
        } catch (RuntimeException e) {
            got = e.getClass().getName();
        }
        report(got.equals("an answer"), what, got, "an answer");
    }

    private static void report(boolean right, String what, String got, String due) {
        made++;
        if (!right) {
            wrong++;
            System.out.println("  " + about + (about.isEmpty() ? "" : ": ") + what + ": " + got + ", due is " + due);
        }
    }

    static void finish(String name) {
        System.out.println(name + ": " + made + " answers, " + wrong + " of them wrong");
        if (wrong > 0 || made == 0) {
            System.exit(1);
        }
    }

    static void put(MarkdownMarket market, String text) {
        int before = market.truncateInput(0) ? 0 : -1;
        int length = before;
        for (int at = 0; at < text.length(); at += 20) {
            int[] words = new int[5];
            for (int i = 0; i < 20; i++) {
                int sign = at + i < text.length() ? text.charAt(at + i) & 255 : ' ';
                words[i / 4] = words[i / 4] << 8 | sign;
            }
            length = market.appendInput(words[0], words[1], words[2], words[3], words[4]);
        }
        if (length < text.length() || !market.truncateInput(text.length())) {
            throw new IllegalArgumentException("the text is too long");
        }
    }

    static int load(MarkdownMarket market, String text) {
        put(market, text);
        return market.loadMarket();
    }

    static MarkdownMarket market(String text) {
        MarkdownMarket market = new MarkdownMarket();
        if (load(market, text) < 0) {
            throw new IllegalArgumentException("error " + market.errorCode() + " at " + market.errorOffset()
                    + " in " + text);
        }
        return market;
    }

    static MarkdownMarket market(String text, int days) {
        MarkdownMarket market = market(text);
        market.run(days);
        return market;
    }

    /** All events as text: day, kind, number, amount; oldest first. */
    static String events(MarkdownMarket market) {
        StringBuilder text = new StringBuilder();
        for (int i = 0; i < market.events(); i++) {
            text.append(i == 0 ? "" : " ");
            for (int what = 0; what < 4; what++) {
                text.append(what == 0 ? "" : ",").append(market.event(i, what));
            }
        }
        return text.toString();
    }

    static String output(MarkdownMarket market) {
        StringBuilder text = new StringBuilder();
        for (int i = 0; market.outputByte(i) >= 0; i++) {
            text.append((char) market.outputByte(i));
        }
        return text.toString();
    }
}
