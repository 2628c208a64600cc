/** Promises 1 to 7, with the form of the market text and its errors. */
final class TextTest {
    private static final String A = "product a base 10 life 5;";

    private TextTest() {
    }

    public static void main(String[] args) {
        newObject();
        appendInput();
        truncateInput();
        loadMarket();
        errorIsOfTheLatestLoad();
        tokens();
        syntax();
        ranges();
        names();
        misplaced();
        firstErrorCounts();
        loadReplacesEverything();
        errorChangesNothing();
        constants();
        Check.finish("TextTest");
    }

    private static void newObject() {
        MarkdownMarket m = new MarkdownMarket();
        Check.same("1 products", m.products(), 0);
        Check.same("1 buyers", m.buyers(), 0);
        Check.same("1 day", m.day(), -1);
        Check.same("1 fee", m.setFee(10), 10);
        Check.same("1 input is empty", m.truncateInput(1), false);
        Check.same("1 no text", m.truncateInput(0), true);
        Check.same("1 error", m.errorCode(), MarkdownMarket.NO_ERROR);
        Check.same("1 offset", m.errorOffset(), -1);
        Check.same("1 waiting", m.waiting(), 0);
        Check.same("1 holds", m.holds(), 0);
        Check.same("1 events", m.events(), 0);
        Check.same("1 output", m.outputByte(0), -1);
        Check.same("1 days pass", m.run(60), 0);
        Check.same("1 day after days", m.day(), 59);
    }

    private static void appendInput() {
        MarkdownMarket m = new MarkdownMarket();
        // "fee 7;product z base", in pieces of four bytes
        int length = m.appendInput(0x66656520, 0x373b7072, 0x6f647563, 0x74207a20, 0x62617365);
        Check.same("2 length", length, 20);
        length = m.appendInput(0x20352020, 0x20206c69, 0x66652020, 0x20203220, 0x3b202020);
        Check.same("2 length again", length, 40);
        Check.same("2 load", m.loadMarket(), 1);
        Check.same("2 fee is read", m.setFee(1), 7);
        Check.same("2 base is read", m.figure(0, 7), 5);
        for (int i = 1; i <= 60; i++) {
            Check.same("2 fill", m.appendInput(0x20202020, 0x0a202020, 0x20200a20, 0x2020200a, 0x20202020), 20 * i);
        }
        Check.same("2 full", m.appendInput(1, 2, 3, 4, 5), -1);
        Check.same("2 one byte less", m.truncateInput(1199), true);
        Check.same("2 still too long", m.appendInput(1, 2, 3, 4, 5), -1);
        Check.same("2 no change", m.truncateInput(1200), false);
        Check.same("2 room for one piece", m.truncateInput(1180), true);
        Check.same("2 full again", m.appendInput(0x20202020, 0x20202020, 0x20202020, 0x20202020, 0x20202020), 1200);
        Check.same("2 1200 blanks load", m.loadMarket(), 0);
        m.appendInput(0xffffffff, 0x80808080, 0, 0, 0);
        Check.same("2 signed bytes", m.loadMarket(), -1);
        Check.same("2 belong to no token", m.errorCode(), MarkdownMarket.SYNTAX);
        Check.same("2 first of them", m.errorOffset(), 0);
    }

    private static void truncateInput() {
        MarkdownMarket m = new MarkdownMarket();
        Check.put(m, "fee 3;fee 4;");
        Check.same("3 negative", m.truncateInput(-1), false);
        Check.same("3 least int", m.truncateInput(Integer.MIN_VALUE), false);
        Check.same("3 longer", m.truncateInput(13), false);
        Check.same("3 greatest int", m.truncateInput(Integer.MAX_VALUE), false);
        Check.same("3 as long", m.truncateInput(12), true);
        Check.same("3 shorter", m.truncateInput(6), true);
        Check.same("3 not longer again", m.truncateInput(7), false);
        Check.same("3 load", m.loadMarket(), 0);
        Check.same("3 fee", m.setFee(0), 3);
    }

    private static void loadMarket() {
        MarkdownMarket m = new MarkdownMarket();
        Check.same("4 empty text", m.loadMarket(), 0);
        Check.same("4 two products", Check.load(m, A + "product b base 1 life 1;"), 2);
        Check.same("4 buffer is empty", m.truncateInput(1), false);
        Check.same("7 products", m.products(), 2);
        Check.same("4 error", Check.load(m, A + "x"), -1);
        Check.same("4 buffer is empty after an error", m.truncateInput(1), false);
        Check.same("7 products after an error", m.products(), 2);
        Check.same("4 six products", Check.load(m, six()), 6);
        Check.same("4 fee of a text without", m.setFee(0), 10);
    }

    private static void errorIsOfTheLatestLoad() {
        MarkdownMarket m = new MarkdownMarket();
        Check.load(m, "fee 101;");
        Check.same("5 code", m.errorCode(), 2);
        Check.same("6 offset", m.errorOffset(), 4);
        Check.put(m, "fee 100;");
        Check.same("5 code stays until a load", m.errorCode(), 2);
        Check.same("5 load", m.loadMarket(), 0);
        Check.same("5 no error", m.errorCode(), 0);
        Check.same("6 no offset", m.errorOffset(), -1);
    }

    private static void tokens() {
        MarkdownMarket m = new MarkdownMarket();
        Check.same("4 no blanks", Check.load(m, "fee0;product\nabcdefgh\n\nbase0001life60markdown59 100;batch999abcdefgh"
                + "50;buyer999abcdefgh9999patience30strategic99stale99hold9;"), 1);
        Check.same("4 fee", m.setFee(0), 0);
        Check.same("4 base", m.figure(0, 7), 1);
        Check.same("4 life", m.figure(0, 8), 60);
        Check.same("4 value", m.buyer(0, 1), 9999);
        Check.same("4 arrival", m.buyer(0, 2), 999);
        Check.same("4 leaving", m.buyer(0, 3), 1029);
        Check.same("4 least numbers", Check.load(m, "product z base 1 life 1 markdown 1 0;batch 0 z 1;"
                + "buyer 0 z 0 patience 0 strategic 0 stale 0 hold 1;"), 1);
        Check.same("4 lowest percentage", m.percentAt(0, 1), 0);
        error("4 tab", A + "\tfee 1;", 1, 25);
        error("4 carriage return", A + "\r\nfee 1;", 1, 25);
        error("4 capital", "Fee 1;", 1, 0);
        error("4 sign", "fee -1;", 1, 4);
        error("4 before a", "fee` 1;", 1, 3);
        error("4 behind z", "fee{ 1;", 1, 3);
        error("4 before 0", "fee /1;", 1, 4);
        error("4 behind 9", "fee 1:;", 1, 5);
        error("4 byte 0", "fee 1\0;", 1, 5);
        error("4 byte 255", "fee 1;\u00ff", 1, 6);
    }

    private static void syntax() {
        error("4 semicolon alone", ";", 1, 0);
        error("4 number alone", "1;", 1, 0);
        error("4 unknown statement", "fees 1;", 1, 0);
        error("4 keyword that begins nothing", " life 1;", 1, 1);
        error("4 fee without number", "fee ;", 1, 4);
        error("4 end", "fee", 1, 3);
        error("4 end behind blanks", "fee  \n", 1, 6);
        error("4 no semicolon", "fee 1", 1, 5);
        error("4 other statement instead", "fee 1 fee 2;", 1, 6);
        error("4 five digits", "fee 00001;", 1, 4);
        error("4 very many digits", "fee 99999999999999999999;", 1, 4);
        error("4 a number as name", "product 1 base 1 life 1;", 1, 8);
        error("4 nine letters", "product abcdefghi base 1 life 1;", 1, 8);
        for (String keyword : new String[] {"fee", "product", "base", "life", "markdown", "batch", "buyer",
                "patience", "strategic", "stale", "hold"}) {
            error("4 " + keyword + " is no name", "product " + keyword + " base 1 life 1;", 1, 8);
            error("4 " + keyword + " is no name of a batch", A + "batch 0 " + keyword + " 1;", 1, 33);
            error("4 " + keyword + " is no name of a buyer", A + "buyer 0 " + keyword + " 1;", 1, 33);
        }
        error("4 long unknown name", A + "batch 0 abcdefghi 1;", 1, 33);
        error("4 base missing", "product a life 1;", 1, 10);
        error("4 life missing", "product a base 1;", 1, 16);
        error("4 step without percentage", "product a base 1 life 1 markdown 1;", 1, 34);
        error("4 something else than a step", "product a base 1 life 1 hold 1;", 1, 24);
        error("4 batch without day", A + "batch a 1;", 1, 31);
        error("4 batch without units", A + "batch 1 a;", 1, 34);
        error("4 buyer without value", A + "buyer 1 a patience 1;", 1, 35);
        error("4 options out of order", A + "buyer 1 a 1 strategic 1 patience 1;", 1, 49);
        error("4 options out of order again", A + "buyer 1 a 1 hold 1 stale 1;", 1, 44);
        error("4 option twice", A + "buyer 1 a 1 stale 1 stale 1;", 1, 45);
        error("4 option without number", A + "buyer 1 a 1 stale;", 1, 42);
        error("4 two semicolons", A + ";", 1, 25);
    }

    private static void ranges() {
        error("4 fee", "fee 101;", 2, 4);
        error("4 base 0", "product a base 0 life 1;", 2, 15);
        error("4 life 0", "product a base 1 life 0;", 2, 22);
        error("4 life 61", "product a base 1 life 61;", 2, 22);
        error("4 age 0", "product a base 1 life 1 markdown 0 1;", 2, 33);
        error("4 age 60", "product a base 1 life 1 markdown 60 1;", 2, 33);
        error("4 percentage", "product a base 1 life 1 markdown 1 101;", 2, 35);
        error("4 same age", "product a base 1 life 1 markdown 7 1 markdown 7 1;", 2, 46);
        error("4 smaller age", "product a base 1 life 1 markdown 7 1 markdown 6 1;", 2, 46);
        error("4 after the greatest age", "product a base 1 life 1 markdown 59 1 markdown 59 1;", 2, 47);
        error("4 day of a batch", A + "batch 1000 a 1;", 2, 31);
        error("4 no units", A + "batch 0 a 0;", 2, 35);
        error("4 units", A + "batch 0 a 51;", 2, 35);
        error("4 day of a buyer", A + "buyer 1000 a 1;", 2, 31);
        error("4 patience", A + "buyer 0 a 1 patience 31;", 2, 46);
        error("4 strategic", A + "buyer 0 a 1 strategic 100;", 2, 47);
        error("4 stale", A + "buyer 0 a 1 stale 100;", 2, 43);
        error("4 hold 0", A + "buyer 0 a 1 hold 0;", 2, 42);
        error("4 hold 10", A + "buyer 0 a 1 hold 10;", 2, 42);
    }

    private static void names() {
        error("4 taken", A + "product b base 1 life 1;product a base 1 life 1;", 3, 57);
        error("4 unknown", "batch 0 a 1;" + A, 3, 8);
        error("4 unknown to a buyer", A + "buyer 0 aa 1;", 3, 33);
        error("4 own name", "batch 0 batch 1;", 1, 8);
        MarkdownMarket m = Check.market(A);
        Check.same("4 the name is free for the next load", Check.load(m, A), 1);
        Check.same("4 and unknown", Check.load(m, "batch 0 a 1;"), -1);
        Check.same("4 as a bad name", m.errorCode(), 3);
    }

    private static void misplaced() {
        error("4 second fee", "fee 1;" + A + "fee 1;", 4, 31);
        error("4 second fee out of range", "fee 1;fee 101;", 4, 6);
        error("4 seventh product", six() + "product g base 0", 4, six().length());
        String step = " markdown ";
        String five = "product a base 1 life 1" + step + "1 1" + step + "2 1" + step + "3 1" + step + "4 1" + step + "5 1";
        Check.same("4 five steps", Check.load(new MarkdownMarket(), five + ";"), 1);
        error("4 sixth step", five + step + "1 1;", 4, five.length() + 1);
        String batches = A + "batch 0 a 1;".repeat(24);
        Check.same("4 24 batches", Check.load(new MarkdownMarket(), batches), 1);
        error("4 25th batch", batches + " batch", 4, batches.length() + 1);
        String buyers = A + "buyer 0 a 1;".repeat(40);
        Check.same("4 40 buyers", Check.market(buyers).buyers(), 40);
        error("4 41st buyer", buyers + "buyer x", 4, buyers.length());
    }

    private static void firstErrorCounts() {
        error("4 range before syntax", "fee 101 fee 1", 2, 4);
        error("4 syntax before range", "fee x 101;", 1, 4);
        error("4 long number rather than range", "product a base 99999 life 0;", 1, 15);
        error("4 name before base", "product a base 1 life 1;product a base 0 life 1;", 3, 32);
        error("4 day before name", "batch 1000 x 1;", 2, 6);
        error("4 range before sixth step", "product a base 1 life 1 markdown 1 1 markdown 2 1 markdown 3 1 "
                + "markdown 4 1 markdown 4 1 markdown 6 1;", 2, 85);
    }

    private static void loadReplacesEverything() {
        MarkdownMarket m = Check.market("fee 20;" + A + "batch 0 a 1;buyer 0 a 50;", 2);
        m.saveState();
        Check.same("4 load", Check.load(m, "product q base 3 life 2;"), 1);
        Check.same("4 day", m.day(), -1);
        Check.same("4 buyers", m.buyers(), 0);
        Check.same("4 events", m.events(), 0);
        Check.same("4 income", m.income(), 0);
        Check.same("4 fee", m.setFee(10), 10);
        Check.same("4 batches", m.addBatch(0, 1), 0);
        Check.fails("4 no state is saved", IllegalStateException.class, m::restoreState);
    }

    private static void errorChangesNothing() {
        MarkdownMarket m = Check.market("fee 20;" + A + "batch 0 a 1;buyer 0 a 50;", 2);
        m.saveState();
        m.printReport();
        Check.same("4 error", Check.load(m, "fee 5;product q base 3 life 2;batch 0 q 4;buyer 0 q 4;buyer;"), -1);
        Check.same("4 day stays", m.day(), 1);
        Check.same("4 products stay", m.products(), 1);
        Check.same("4 buyers stay", m.buyers(), 1);
        Check.same("4 income stays", m.income(), 10);
        Check.same("4 events stay", Check.events(m), "0,0,0,1 0,1,0,10");
        Check.same("4 base stays", m.figure(0, 7), 10);
        Check.same("4 fee stays", m.setFee(20), 20);
        Check.same("4 output stays", Check.output(m), "a:1/1 10;");
        Check.same("4 saved state stays", m.restoreState(), 1);
    }

    private static void constants() {
        Check.same("NO_ERROR", MarkdownMarket.NO_ERROR, 0);
        Check.same("SYNTAX", MarkdownMarket.SYNTAX, 1);
        Check.same("OUT_OF_RANGE", MarkdownMarket.OUT_OF_RANGE, 2);
        Check.same("BAD_NAME", MarkdownMarket.BAD_NAME, 3);
        Check.same("MISPLACED", MarkdownMarket.MISPLACED, 4);
    }

    private static String six() {
        StringBuilder text = new StringBuilder();
        for (char name = 'a'; name <= 'f'; name++) {
            text.append("product ").append(name).append(" base 1 life 1;");
        }
        return text.toString();
    }

    private static void error(String what, String text, int code, int offset) {
        MarkdownMarket m = new MarkdownMarket();
        Check.same(what + ": load", Check.load(m, text), -1);
        Check.same(what + ": 5 code", m.errorCode(), code);
        Check.same(what + ": 6 offset", m.errorOffset(), offset);
    }
}
