import java.util.ArrayList;
import java.util.List;

/** Promises 1 to 7 and the form of the market text, sentence by sentence. */
final class EdgeText {
    private static final String A = "product a base 10 life 5;";
    private static final String[] KEYWORDS = {"fee", "product", "base", "life", "markdown", "batch", "buyer",
        "patience", "strategic", "stale", "hold"};

    /** Every statement with all that it can have; a blank stands between two tokens. */
    private static final String ALL = "fee 5 ; product egg base 90 life 5 markdown 2 60 markdown 3 40 ; batch 3 egg 7 ; "
            + "buyer 0 egg 9 patience 1 strategic 2 stale 3 hold 4 ;";

    private EdgeText() {
    }

    static void test() {
        units();
        buffer();
        statements();
        fee();
        product();
        batch();
        buyer();
        buyerOptions();
        counts();
        productNames();
        tokens();
        gaps();
        names();
        firstError();
        syntax();
        syntaxPlaces();
        outOfRange();
        badName();
        misplaced();
        afterAnError();
        afterALoad();
        newObject();
        appendInput();
        truncateInput();
        loadMarket();
        errors();
        products();
    }

    private static void quote(String words) {
        Document.quote(Document.DESCRIPTION, words);
    }

    private static MarkdownMarket loads(String text, int products) {
        MarkdownMarket m = new MarkdownMarket();
        Check.same("load of " + text, Check.load(m, text), products);
        Check.same("code of " + text, m.errorCode(), MarkdownMarket.NO_ERROR);
        return m;
    }

    private static void error(String text, int code, int offset) {
        MarkdownMarket m = new MarkdownMarket();
        Check.same("load of " + text, Check.load(m, text), -1);
        Check.same("code of " + text, m.errorCode(), code);
        Check.same("offset in " + text, m.errorOffset(), offset);
    }

    /** The words in which the number stands, of which all from least to most are in range. */
    private static void range(String before, int least, int most, String after) {
        loads(before + least + after, 1);
        loads(before + most + after, 1);
        if (least > 0) {
            error(before + (least - 1) + after, 2, before.length());
        }
        error(before + (most + 1) + after, most == 9999 ? 1 : 2, before.length());
    }

    private static void units() {
        quote("Units. Time is counted in days, numbered from 0; before the first day the present day is -1.");
        MarkdownMarket m = loads(A, 1);
        Check.same("before the first day", m.day(), -1);
        m.run(1);
        Check.same("the first day", m.day(), 0);
        m.run(60);
        Check.same("60 days later", m.day(), 60);
        quote("Prices and values are integers.");
        Check.same("98.99", loads("product a base 9999 life 2 markdown 1 99;", 1).priceAt(0, 1), 9899);
    }

    private static void buffer() {
        quote("Market text. The input buffer holds at most 1200 bytes.");
        MarkdownMarket m = new MarkdownMarket();
        Check.same("1200 bytes, the last one a semicolon", Check.load(m, "fee 7" + " ".repeat(1194) + ";"), 0);
        Check.same("all of them are read", m.setFee(1), 7);
        error("fee 7" + " ".repeat(1195), 1, 1200);
        error(A + " ".repeat(1174) + "$", 1, 1199);
        Check.put(m, "\n".repeat(1200));
        Check.same("a 1201st", m.appendInput(0x20202020, 0x20202020, 0x20202020, 0x20202020, 0x20202020), -1);
        Check.same("the 1200 stay", m.truncateInput(1200), true);
        Check.same("and are a text", m.loadMarket(), 0);
    }

    private static void statements() {
        quote("The text is a sequence of statements, each followed by a semicolon.");
        loads("", 0);
        loads(" \n ", 0);
        loads("fee 3;", 0);
        loads(A, 1);
        loads(A + A.replace("t a", "t b"), 2);
        error(A.replace(";", ""), 1, A.length() - 1);
        error(A + "fee 3", 1, A.length() + 5);
        error("fee 3 " + A, 1, 6);
        error(";", 1, 0);
        error(A + ";", 1, A.length());
        quote("N stands for a number, NAME for a name, brackets for an optional part, and braces for any number of "
                + "repetitions:");
        String[] options = {" patience 4", " strategic 3", " stale 2", " hold 1"};
        for (int mask = 0; mask < 16; mask++) {
            StringBuilder text = new StringBuilder(A + "buyer 0 a 9");
            for (int i = 0; i < options.length; i++) {
                text.append((mask >> i & 1) == 1 ? options[i] : "");
            }
            Check.same("leaving day", loads(text + ";", 1).buyer(0, 3), mask % 2 == 1 ? 4 : 0);
        }
        for (int steps = 0; steps <= 5; steps++) {
            StringBuilder text = new StringBuilder("product a base 1 life 1");
            for (int age = 1; age <= steps; age++) {
                text.append(" markdown ").append(age).append(" 50");
            }
            Check.same("steps", loads(text + ";", 1).markDown(0, 1, 50), Math.max(1, steps));
        }
    }

    private static void fee() {
        quote("fee N the deposit in percent of the price, 0 to 100; 10 without this statement");
        Check.same("least", loads("fee 0;", 0).setFee(1), 0);
        Check.same("most", loads("fee 100;", 0).setFee(1), 100);
        error("fee 101;", 2, 4);
        error("fee 9999;", 2, 4);
        Check.same("without", loads(A, 1).setFee(1), 10);
        MarkdownMarket m = loads("fee 100;", 0);
        Check.load(m, A);
        Check.same("without, after another text", m.setFee(1), 10);
        Check.load(m, "");
        Check.same("without anything", m.setFee(1), 10);
    }

    private static void product() {
        quote("product NAME base N life N {markdown N N} a product, with its base price (1 to 9999),");
        range("product a base ", 1, 9999, " life 5;");
        Check.same("greatest base", loads("product a base 9999 life 5;", 1).figure(0, 7), 9999);
        quote("its shelf life in days (1 to 60),");
        range("product a base 1 life ", 1, 60, ";");
        Check.same("greatest life", loads("product a base 1 life 60;", 1).figure(0, 8), 60);
        quote("and the steps of its markdown ladder: an age (1 to 59, greater than that of the step before)");
        range("product a base 1 life 5 markdown ", 1, 59, " 50;");
        range("product a base 1 life 5 markdown 1 60 markdown ", 2, 59, " 50;");
        range("product a base 1 life 5 markdown 58 60 markdown ", 59, 59, " 50;");
        error("product a base 1 life 5 markdown 59 60 markdown 59 50;", 2, 48);
        error("product a base 1 life 5 markdown 59 60 markdown 60 50;", 2, 48);
        error("product a base 1 life 5 markdown 30 60 markdown 1 50;", 2, 48);
        quote("and a percentage (0 to 100);");
        range("product a base 1 life 5 markdown 1 ", 0, 100, ";");
        Check.same("a percentage may rise", loads("product a base 1 life 5 markdown 1 0 markdown 2 100;", 1)
                .percentAt(0, 2), 100);
        quote("at most 5 steps");
        String five = "product a base 1 life 5 markdown 1 90 markdown 2 80 markdown 3 70 markdown 4 60 markdown 5 50";
        Check.same("the fifth", loads(five + ";", 1).percentAt(0, 59), 50);
        error(five + " markdown 6 40;", 4, five.length() + 1);
    }

    private static void batch() {
        quote("batch N NAME N a batch that is delivered on a day (0 to 999),");
        range(A + "batch ", 0, 999, " a 1;");
        MarkdownMarket first = loads(A + "batch 0 a 1;", 1);
        first.run(1);
        Check.same("on the first day", first.figure(0, 2), 1);
        MarkdownMarket last = loads(A + "batch 999 a 1;", 1);
        for (int i = 0; i < 27; i++) {
            last.run(37);
        }
        Check.same("day 998", last.day() * 10 + last.figure(0, 0), 9980);
        last.run(1);
        Check.same("day 999", last.day() * 10 + last.figure(0, 2), 9991);
        quote("of a product, with a number of units (1 to 50)");
        range(A + "batch 0 a ", 1, 50, ";");
        MarkdownMarket most = loads(A + "batch 0 a 50;batch 0 a 1;", 1);
        most.run(1);
        Check.same("50 and 1", most.figure(0, 0), 51);
        Check.same("50", most.batch(0, 0, 2), 50);
    }

    private static void buyer() {
        quote("buyer N NAME N [patience N] [strategic N] [stale N] [hold N] a buyer who arrives on a day (0 to 999)");
        range(A + "buyer ", 0, 999, " a 1;");
        MarkdownMarket last = loads(A + "buyer 999 a 1 patience 1;buyer 0 a 1 patience 1;", 1);
        last.run(1);
        Check.same("on the first day", last.buyerState(1), 1);
        for (int i = 0; i < 27; i++) {
            last.run(i == 0 ? 36 : 37);
        }
        Check.same("day 998", last.day() * 10 + last.buyerState(0), 9980);
        last.run(1);
        Check.same("day 999", last.day() * 10 + last.buyerState(0), 9991);
        quote("and wants one unit of a product,");
        MarkdownMarket one = loads(A + "batch 0 a 2;batch 3 a 2;buyer 0 a 99 patience 30;", 1);
        Check.same("one", one.run(60), 1);
        quote("with a value (0 to 9999),");
        range(A + "buyer 0 a ", 0, 9999, ";");
        MarkdownMarket value = loads("product a base 9999 life 5 markdown 1 0;batch 0 a 9;buyer 0 a 9999;buyer 1 a 0;"
                + "buyer 0 a 9998;", 1);
        value.run(2);
        Check.same("greatest value", value.buyer(0, 4), 9999);
        Check.same("least value", value.buyerState(1), 3);
        Check.same("greatest value but one", value.buyerState(2), 4);
    }

    private static void buyerOptions() {
        quote("a patience in days (0 to 30, 0 if it is omitted),");
        range(A + "buyer 0 a 1 patience ", 0, 30, ";");
        MarkdownMarket m = loads(A + "buyer 5 a 1 patience 30;buyer 5 a 1 patience 0;buyer 5 a 1;buyer 5 a 1 hold 9;", 1);
        int[] leavingDays = {35, 5, 5, 5};
        for (int i = 0; i < leavingDays.length; i++) {
            Check.same("leaving day", m.buyer(i, 3), leavingDays[i]);
        }
        quote("a waiting cost for each day if the buyer is strategic (0 to 99),");
        range(A + "buyer 0 a 1 strategic ", 0, 99, ";");
        String ladder = "product a base 1000 life 5 markdown 1 90;batch 0 a 9;buyer 0 a 1000 patience 1";
        int[] days = {-1, 1, 1};
        String[] costs = {"", " strategic 0", " strategic 99"};
        for (int i = 0; i < costs.length; i++) {
            MarkdownMarket waits = loads(ladder + costs[i] + ";", 1);
            waits.run(1);
            Check.same("waits" + costs[i], waits.waitsFor(0), days[i]);
        }
        quote("a penalty for each day of age (0 to 99, 0 if it is omitted),");
        range(A + "buyer 0 a 1 stale ", 0, 99, ";");
        MarkdownMarket stale = loads(A + "batch 0 a 9;buyer 9 a 300 stale 99;buyer 9 a 300 stale 0;buyer 9 a 300;", 1);
        stale.run(3);
        int[] surpluses = {300 - 10 - 198, 290, 290};
        for (int i = 0; i < surpluses.length; i++) {
            Check.same("surplus", stale.bestSurplus(i), surpluses[i]);
        }
        quote("and a number of days if the buyer reserves (1 to 9)");
        range(A + "buyer 0 a 1 hold ", 1, 9, ";");
        MarkdownMarket hold = loads(A + "batch 0 a 9;buyer 0 a 10 hold 1;buyer 0 a 10 hold 9;buyer 0 a 10;", 1);
        hold.run(1);
        Check.same("least", hold.hold(0, 4), 1);
        Check.same("most", hold.hold(1, 4), 9);
        Check.same("without", hold.buyerState(2), 3);
    }

    private static String sixProducts() {
        StringBuilder text = new StringBuilder();
        for (char name = 'a'; name <= 'f'; name++) {
            text.append("product ").append(name).append(" base 1 life 1;");
        }
        return text.toString();
    }

    private static void counts() {
        quote("There are at most 6 products, 24 batches and 40 buyers,");
        MarkdownMarket m = loads(sixProducts() + "batch 0 f 1;".repeat(24) + "buyer 0 a 5;".repeat(40), 6);
        Check.same("buyers", m.buyers(), 40);
        m.run(1);
        Check.same("units of 24 batches", m.figure(5, 2), 24);
        Check.same("number of the last batch", m.batch(5, 23, 0), 23);
        Check.fails("one more buyer", Edge.STATE, () -> m.addBuyer(0, 1, 0, -1, 0, 0));
        Check.fails("one more batch", Edge.STATE, () -> m.addBatch(0, 1));
        error(sixProducts() + "product g base 1 life 1;", 4, sixProducts().length());
        error(A + "batch 0 a 1;".repeat(25), 4, A.length() + 24 * 12);
        error(A + "buyer 0 a 5;".repeat(41), 4, A.length() + 40 * 12);
        quote("each numbered from 0 in the order of their statements.");
        MarkdownMarket mixed = loads("product z base 7 life 9;buyer 9 z 5;batch 1 z 2;product b base 8 life 9;"
                + "buyer 3 b 6;batch 0 b 3;batch 0 z 4;buyer 0 z 4;", 2);
        Check.same("product 0", mixed.figure(0, 7), 7);
        Check.same("product 1", mixed.figure(1, 7), 8);
        Check.same("buyer 0", mixed.buyer(0, 1), 5);
        Check.same("buyer 1", mixed.buyer(1, 1), 6);
        Check.same("buyer 2", mixed.buyer(2, 1), 4);
        mixed.run(2);
        Check.same("batch 0", mixed.batch(0, 0, 0) * 10 + mixed.batch(0, 0, 2), 2);
        Check.same("batch 1", mixed.batch(1, 0, 0) * 10 + mixed.batch(1, 0, 2), 13);
        Check.same("batch 2", mixed.batch(0, 1, 0) * 10 + mixed.batch(0, 1, 2), 24);
    }

    private static void productNames() {
        quote("Products have different names;");
        loads(A + "product aa base 1 life 1;product aaa base 1 life 1;", 3);
        error(A + "product a base 1 life 1;", 3, A.length() + 8);
        error(sixProducts().replace("t f", "t a"), 3, 5 * 24 + 8);
        quote("the name in a batch or a buyer statement is that of an earlier product.");
        loads(sixProducts() + "batch 0 a 1;batch 0 f 1;buyer 0 a 1;buyer 0 f 1;", 6);
        error("batch 0 a 1;" + A, 3, 8);
        error("buyer 0 a 1;" + A, 3, 8);
        error(A + "batch 0 b 1;product b base 1 life 1;", 3, A.length() + 8);
        error(A + "buyer 0 aa 1;", 3, A.length() + 8);
        quote("The fee statement may occur once.");
        Check.same("first", loads("fee 3;" + A, 1).setFee(0), 3);
        Check.same("last", loads(A + "fee 3;", 1).setFee(0), 3);
        error("fee 3;fee 3;", 4, 6);
        error("fee 10;" + A + "fee 10;", 4, 7 + A.length());
    }

    private static void tokens() {
        quote("Tokens are words (maximal runs of the letters a to z),");
        loads("product az base 1 life 1;product za base 1 life 1;", 2);
        error("feefee 1;", 1, 0);
        error("fe e 1;", 1, 0);
        error("producta base 1 life 1;", 1, 0);
        for (char sign : new char[] {'`', '{', 'A', 'Z'}) {
            error("product a" + sign + " base 1 life 1;", 1, 9);
        }
        quote("numbers (maximal runs of digits, 1 to 4 of them)");
        Check.same("one digit", loads("fee 9;", 0).setFee(0), 9);
        Check.same("four digits", loads("fee 0099;", 0).setFee(0), 99);
        Check.same("zeros", loads("fee 0000;", 0).setFee(0), 0);
        error("fee 00099;", 1, 4);
        error("fee 00000;", 1, 4);
        error("fee 4294967299;", 1, 4);
        error("fee 1 0;", 1, 6);
        error("fee 1/;", 1, 5);
        error("fee 1:;", 1, 5);
        quote("and semicolons.");
        loads("fee 1;product a base 1 life 1;batch 0 a 1;", 1);
        error("fee 1;;", 1, 6);
        error("fee 1:", 1, 5);
        error("fee 1<", 1, 5);
    }

    private static void gaps() {
        quote("Spaces (32) and line feeds (10) may stand between tokens.");
        for (char sign = 0; sign < 256; sign++) {
            String text = "fee 7" + sign + ";";
            if (sign == ' ' || sign == '\n' || sign >= '0' && sign <= '9') {
                loads(text, 0);
            } else {
                error(text, 1, sign == ';' ? 6 : 5);
            }
        }
        loads("\n  " + ALL.replace(" ", " \n \n") + "\n", 1);
        loads("fee5;product egg base90life5markdown2 60markdown3 40;batch3egg7;buyer0egg9patience1strategic2stale3hold4;", 1);
        error("fe\ne 7;", 1, 0);
        error("fee 7 7;", 1, 6);
        Check.same("a gap parts a number", loads("product a base 1 life 5 markdown 1\n2;", 1).percentAt(0, 1), 2);
    }

    private static void names() {
        quote("A name is a word of 1 to 8 letters that is none of: fee, product, base, life, markdown, batch, buyer, "
                + "patience, strategic, stale, hold.");
        loads("product abcdefgh base 1 life 1;batch 0 abcdefgh 1;buyer 0 abcdefgh 1;", 1);
        loads(A + "batch 0 a 1;buyer 0 a 1;", 1);
        error("product abcdefghi base 1 life 1;", 1, 8);
        error(A + "batch 0 abcdefghi 1;", 1, 33);
        error(A + "buyer 0 abcdefghi 1;", 1, 33);
        for (String keyword : KEYWORDS) {
            error("product " + keyword + " base 1 life 1;", 1, 8);
            error(A + "batch 0 " + keyword + " 1;", 1, 33);
            error(A + "buyer 0 " + keyword + " 1;", 1, 33);
            String shorter = keyword.substring(0, Math.min(8, keyword.length() - 1));
            loads("product " + shorter + " base 1 life 1;batch 0 " + shorter + " 1;", 1);
            if (keyword.length() < 8) {
                loads("product " + keyword + "s base 1 life 1;", 1);
            }
        }
    }

    private static void firstError() {
        quote("A text is parsed from left to right, and the first error met is reported, with an offset in bytes from 0;");
        error("$", 1, 0);
        error("fee 101;$", 2, 4);
        error(A + "batch 0 b 0", 3, 33);
        error(A + "batch 1000 b 0", 2, 31);
        error("fee 1;fee 101", 4, 6);
        error("product a base 0 life x", 2, 15);
        error("product a base 1 life 1 markdown 5 101 markdown 5 101", 2, 35);
        error(sixProducts() + "product a base 0", 4, sixProducts().length());
        quote("if several errors apply to one token, the one with the smallest code:");
        error("fee 99999;", 1, 4);
        error("product a base 00000 life 1;", 1, 15);
        error(A + "batch 0 abcdefghi 1;", 1, 33);
        error(A + "buyer 0 hold 1;", 1, 33);
        error(A + "product 1 base 1 life 1;", 1, 33);
        error("product a base 1 life 5 markdown 59 60 markdown 00060 50;", 1, 48);
    }

    private static List<Integer> offsets() {
        List<Integer> offsets = new ArrayList<>();
        for (int i = 0; i < ALL.length(); i++) {
            if (ALL.charAt(i) != ' ' && (i == 0 || ALL.charAt(i - 1) == ' ')) {
                offsets.add(i);
            }
        }
        return offsets;
    }

    private static String tokenAt(int offset) {
        int end = ALL.indexOf(' ', offset);
        return ALL.substring(offset, end < 0 ? ALL.length() : end);
    }

    private static void syntax() {
        loads(ALL, 1);
        quote("SYNTAX: a token that cannot stand at its place,");
        for (int offset : offsets()) {
            String token = tokenAt(offset);
            String other = Character.isDigit(token.charAt(0)) ? "zz" : "1";
            error(ALL.substring(0, offset) + other + ALL.substring(offset + token.length()), 1, offset);
            // Where an optional part begins, the statement may end instead.
            if (!token.matches(";|markdown|patience|strategic|stale|hold")) {
                error(ALL.substring(0, offset) + ";" + ALL.substring(offset + token.length()), 1, offset);
            }
        }
        quote("a word that is no name where a name is required,");
        for (String before : new String[] {"product ", A + "batch 0 ", A + "buyer 0 "}) {
            error(before + "life base 1 life 1;", 1, before.length());
            error(before + "eggseggse 1;", 1, before.length());
            error(before + "strategic", 1, before.length());
        }
        quote("a number that is too long,");
        for (int offset : offsets()) {
            String token = tokenAt(offset);
            if (Character.isDigit(token.charAt(0))) {
                String zeros = "00000".substring(token.length());
                error(ALL.substring(0, offset) + zeros + ALL.substring(offset), 1, offset);
                loads(ALL.substring(0, offset) + zeros.substring(1) + ALL.substring(offset), 1);
            }
        }
        error("00001", 1, 0);
        error("fee 1 00001", 1, 6);
        quote("a byte that belongs to no token,");
        for (int offset : offsets()) {
            error(ALL.substring(0, offset) + "$" + ALL.substring(offset), 1, offset);
        }
        error(ALL + "\u0080", 1, ALL.length());
        error(ALL + "\u00ff", 1, ALL.length());
    }

    private static void syntaxPlaces() {
        quote("or the end of the text where more is required.");
        for (int offset : offsets()) {
            String token = tokenAt(offset);
            String text = ALL.substring(0, offset + token.length());
            if (token.equals(";")) {
                Check.answers(text, () -> Check.market(text));
            } else {
                error(text, 1, text.length());
                error(text + " \n ", 1, text.length() + 3);
            }
        }
        quote("The offset is that of the first byte of the token, or the length of the text.");
        error("fee\n  fees;", 1, 6);
        error("fee   ", 1, 6);
        error("fee", 1, 3);
        error(" fees", 1, 1);
        error("fee 12345;", 1, 4);
    }

    private static void outOfRange() {
        quote("OUT_OF_RANGE: a number out of its range,");
        error("fee 0101;", 2, 4);
        error("product a base 0000 life 5;", 2, 15);
        error("product a base 1 life\n 61;", 2, 23);
        error(A + "batch 9999 a 1;", 2, 31);
        error(A + "batch 0 a 0;", 2, 35);
        error(A + "buyer 0 a 1 patience 31 stale 100;", 2, 46);
        error(A + "buyer 0 a 1 patience 30 stale 100;", 2, 55);
        quote("or an age of a step that is not greater than that of the step before, at its first byte.");
        error("product a base 1 life 9 markdown 5 1 markdown 0005 1;", 2, 46);
        error("product a base 1 life 9 markdown 5 1 markdown 4 1;", 2, 46);
        error("product a base 1 life 9 markdown 5 1 markdown 6 1 markdown 6 1;", 2, 59);
        loads("product a base 1 life 9 markdown 5 1;product b base 1 life 9 markdown 5 1;", 2);
        loads("product a base 1 life 9 markdown 5 1;product b base 1 life 9 markdown 1 1;", 2);
    }

    private static void badName() {
        quote("BAD_NAME: a name of a product that is taken or unknown, at its first byte.");
        error(A + "product\n\na base 1 life 1;", 3, 34);
        error(A + "product b base 1 life 1;product b base 1 life 1;", 3, 57);
        error(A + "batch 999  b 51;", 3, 36);
        error(A + "buyer 999 b 1;", 3, 35);
        error("batch 0 a 1;", 3, 8);
        MarkdownMarket m = loads(A, 1);
        Check.same("taken in another text", Check.load(m, A), 1);
        Check.same("known in another text", Check.load(m, "batch 0 a 1;"), -1);
        Check.same("is unknown", m.errorCode(), 3);
        Check.load(m, "product q base 1 life 1;fee");
        Check.same("known in a text with an error", Check.load(m, "batch 0 q 1;"), -1);
        Check.same("is unknown too", m.errorCode(), 3);
    }

    private static void misplaced() {
        quote("MISPLACED: a second fee statement,");
        error("fee 1;fee", 4, 6);
        error("fee 1; \nfee 1;", 4, 8);
        error("fee 1;fee x;", 4, 6);
        MarkdownMarket m = loads("fee 1;", 0);
        Check.same("a fee in another text", Check.load(m, "fee 2;"), 0);
        quote("a seventh product,");
        error(sixProducts() + " product", 4, sixProducts().length() + 1);
        error(sixProducts() + "product fee", 4, sixProducts().length());
        quote("a 25th batch");
        String batches = A + "batch 0 a 1;".repeat(24);
        loads(batches, 1);
        error(batches + " batch", 4, batches.length() + 1);
        error(batches + "batch 1000 zz 51;", 4, batches.length());
        quote("or a 41st buyer, at the first word of the statement;");
        String buyers = A + "buyer 0 a 1;".repeat(40);
        loads(buyers, 1);
        error(buyers + " buyer", 4, buyers.length() + 1);
        error(buyers + "buyer 1000 zz 51;", 4, buyers.length());
        quote("the word markdown of a sixth step.");
        String five = "product a base 1 life 5 markdown 1 9 markdown 2 8 markdown 3 7 markdown 4 6 markdown 5 5";
        error(five + "\nmarkdown", 4, five.length() + 1);
        error(five + " markdown 5 101;", 4, five.length() + 1);
        loads(five + ";" + five.replace("t a", "t b") + ";", 2);
    }

    private static final String BUSY = "fee 20;product a base 10 life 5 markdown 1 50;batch 0 a 3;batch 1 a 2;"
            + "buyer 0 a 50;buyer 0 a 50 hold 4;buyer 0 a 9 patience 9 stale 9;buyer 9 a 1;";

    private static void afterAnError() {
        quote("An error changes nothing but the input buffer and the reported error.");
        MarkdownMarket m = Check.market(BUSY, 1);
        m.saveState();
        m.run(1);
        m.printReport();
        String before = Picture.of(m);
        String output = Check.output(m);
        String[] texts = {"$", "fee 101;", "product a base 10 life 5;product a", "fee 1;fee", "fee 3;product q base 3 life 2;"
            + "batch 0 q 4;buyer 0 q 4;buyer"};
        int[] codes = {1, 2, 3, 4, 1};
        for (int i = 0; i < texts.length; i++) {
            Check.same("error", Check.load(m, texts[i]), -1);
            Check.same("reported", m.errorCode(), codes[i]);
            Check.same("input buffer", Picture.inputLength(m), 0);
            Check.same("market", Picture.of(m), before);
            Check.same("output", Check.output(m), output);
        }
        Check.same("saved state", m.restoreState(), 0);
        Check.same("saved figure", m.figure(0, 0), 3);
    }

    private static void afterALoad() {
        quote("A successful load replaces everything: the present day is -1, and no state is saved.");
        MarkdownMarket m = Check.market(BUSY, 2);
        m.saveState();
        m.setFee(99);
        Check.same("load", Check.load(m, BUSY), 1);
        Check.same("day", m.day(), -1);
        Check.same("as in a new object", Picture.of(m), Picture.of(Check.market(BUSY)));
        Check.fails("no saved state", Edge.STATE, m::restoreState);
        m.run(5);
        Check.same("five days later", Picture.of(m), Picture.of(Check.market(BUSY, 5)));
        m.saveState();
        Check.same("load of nothing", Check.load(m, ""), 0);
        Check.same("as a new object", Picture.of(m), Picture.of(new MarkdownMarket()));
        Check.fails("no saved state again", Edge.STATE, m::restoreState);
        afterALoadOverMore();
    }

    /** The market before had more of everything, and everything at work: held units, waiting buyers, days to come. */
    private static void afterALoadOverMore() {
        String more = "fee 50;product a base 90 life 4 markdown 1 90 markdown 2 50;product b base 20 life 9;"
                + "product c base 30 life 60;batch 0 a 9;batch 1 b 9;batch 0 a 9;batch 2 a 9;batch 4 a 9;batch 5 c 9;"
                + "buyer 0 a 95;buyer 0 a 95 stale 80 hold 1;buyer 0 a 90 patience 9 strategic 1;buyer 0 a 95 hold 9;"
                + "buyer 1 a 20 patience 30;buyer 2 a 21 patience 30;buyer 3 a 95;buyer 4 a 9;buyer 5 c 40 hold 2;";
        String[] less = {"product q base 10 life 2;batch 0 q 2;buyer 0 q 9 patience 3;buyer 1 q 10 hold 2;",
            "product q base 90 life 3;product r base 1 life 3;batch 0 q 2;batch 1 q 1;buyer 0 q 90 patience 2 strategic 0;"
            + "buyer 0 q 95 hold 1;buyer 1 q 99;", "product q base 5 life 9;", BUSY, more,
            "product q base 90 life 4 markdown 2 50;batch 1 q 2;batch 1 q 1;buyer 1 q 90 patience 1 strategic 0;"};
        for (int days = 0; days <= 6; days++) {
            for (String text : less) {
                MarkdownMarket m = Check.market(more);
                for (int i = 0; i < days; i++) {
                    m.run(1);
                    m.saveState();
                    Picture.ofTheFuture(m);
                }
                Check.load(m, "fee 99;product a base 1 life 1;batch 9 a 50;buyer 9 a 9999 hold 9;fee");
                Check.load(m, text);
                Edge.goTheSameWay(m, Check.market(text), 8);
            }
        }
    }

    private static void newObject() {
        Document.quote(1, "Creates a market with a fee of 10, without products, batches and buyers, with an empty input "
                + "buffer.");
        MarkdownMarket m = new MarkdownMarket();
        Check.same("fee", m.setFee(10), 10);
        Check.same("products", m.products(), 0);
        Check.same("buyers", m.buyers(), 0);
        Check.same("input", m.truncateInput(1), false);
        Check.same("input of 0 bytes", m.truncateInput(0), true);
        Check.fails("batches", Edge.INDEX, () -> m.discard(0));
        Check.fails("a product", Edge.INDEX, () -> m.batches(0));
        Check.fails("a buyer", Edge.INDEX, () -> m.buyerState(0));
        Check.fails("a saved state", Edge.STATE, m::restoreState);
        Check.same("day", m.day(), -1);
        Check.same("nothing else", m.waiting() + m.holds() + m.events() + m.income() + m.welfare() + m.hindsight(), 0);
        Check.same("days pass", m.run(60), 0);
        Check.same("day 59", m.day(), 59);
    }

    /** A byte that belongs to no token tells by the offset of its error where it came to stand. */
    private static void byteStands(int parameter, int index) {
        int[] four = {0x20202020, 0x20202020, 0x20202020, 0x20202020, 0x20202020};
        int shift = 24 - 8 * index;
        four[parameter] = four[parameter] & ~(255 << shift) | 200 << shift;
        MarkdownMarket m = new MarkdownMarket();
        m.appendInput(four[0], four[1], four[2], four[3], four[4]);
        m.loadMarket();
        Check.same("byte " + index, m.errorOffset(), 4 * parameter + index);
    }

    private static void appendInput() {
        Document.quote(2, "Appends 20 bytes to the input buffer: the four bytes of each parameter, the most significant "
                + "byte first.");
        MarkdownMarket m = new MarkdownMarket();
        m.appendInput(0x66656520, 0x373b7072, 0x6f647563, 0x74207a20, 0x62617365);
        m.appendInput(0x20352020, 0x20206c69, 0x66652020, 0x20203220, 0x3b202020);
        Check.same("\"fee 7;product z base 5 life 2;\"", m.loadMarket() * 1000 + m.setFee(0) * 100 + m.figure(0, 7) * 10
                + m.figure(0, 8), 1752);
        String[] parameters = {"a: first four bytes", "b: next four bytes", "c: next four bytes", "d: next four bytes",
            "e: last four bytes"};
        for (int parameter = 0; parameter < parameters.length; parameter++) {
            Document.quote(2, parameters[parameter]);
            for (int index = 0; index < 4; index++) {
                byteStands(parameter, index);
            }
        }
        Document.quote(2, "Returns the new length of the input buffer;");
        for (int i = 1; i <= 60; i++) {
            Check.same("length", m.appendInput(0, -1, Integer.MIN_VALUE, Integer.MAX_VALUE, 1), 20 * i);
        }
        Document.quote(2, "-1, with no change, if it would exceed 1200.");
        for (int length : new int[] {1200, 1199, 1181}) {
            m.truncateInput(length);
            Check.same("with " + length, m.appendInput(1, 2, 3, 4, 5), -1);
            Check.same("it stays", Picture.inputLength(m), length);
        }
        m.truncateInput(1180);
        Check.same("with 1180", m.appendInput(1, 2, 3, 4, 5), 1200);
        Check.put(m, "fee 7" + " ".repeat(1194) + ";");
        Check.same("refused", m.appendInput(-1, -1, -1, -1, -1), -1);
        Check.same("the text stays", m.loadMarket() + m.setFee(0), 7);
        Check.same("after the load", m.appendInput(1, 2, 3, 4, 5), 20);
    }

    private static void truncateInput() {
        Document.quote(3, "Truncates the input buffer.");
        MarkdownMarket m = new MarkdownMarket();
        Check.put(m, "fee 7;fee 8;");
        Check.same("true", m.truncateInput(6), true);
        Check.same("the rest is gone", m.truncateInput(7), false);
        Check.same("what stays is read", m.loadMarket() + m.setFee(0), 7);
        Check.put(m, "fee 9;$");
        m.truncateInput(5);
        Check.same("new bytes follow at the new end", m.appendInput(0x313b2020, 0x20202020, 0x20202020, 0x20202020,
                0x20202020), 25);
        Check.same("91", m.loadMarket() + m.setFee(0), 91);
        Document.quote(3, "length: new length");
        Check.put(m, "fee 7;");
        Check.same("as long", m.truncateInput(6), true);
        Check.same("it stays as long", Picture.inputLength(m), 6);
        Check.same("one less", m.truncateInput(5), true);
        Check.same("it is one less", Picture.inputLength(m), 5);
        Check.same("none", m.truncateInput(0), true);
        Check.same("none of none", m.truncateInput(0), true);
        Check.same("it is empty", m.loadMarket(), 0);
        Document.quote(3, "Returns true; false, with no change, if length is negative or greater than the current length.");
        Check.put(m, "fee 7;");
        for (int length : new int[] {-1, Integer.MIN_VALUE, 7, 1200, 1201, Integer.MAX_VALUE}) {
            Check.same("with " + length, m.truncateInput(length), false);
            Check.same("it stays", Picture.inputLength(m), 6);
        }
        Check.same("the text stays", m.loadMarket() + m.setFee(0), 7);
        Check.same("longer than nothing", m.truncateInput(1), false);
    }

    private static void loadMarket() {
        Document.quote(4, "Loads a market from the input buffer and empties the buffer, whether the load succeeds or not.");
        MarkdownMarket m = new MarkdownMarket();
        Check.load(m, A);
        Check.same("empty", Picture.inputLength(m), 0);
        Check.load(m, "fee 101;");
        Check.same("empty after an error", Picture.inputLength(m), 0);
        Check.load(m, "$" + " ".repeat(1199));
        Check.same("empty after 1200 bytes", Picture.inputLength(m), 0);
        Check.same("a load of the empty buffer", m.loadMarket(), 0);
        Document.quote(4, "Returns the number of products; -1 if there is an error.");
        loads("fee 1;", 0);
        loads(A, 1);
        loads(sixProducts(), 6);
        error(A + "$", 1, A.length());
        error(sixProducts() + "product", 4, sixProducts().length());
    }

    private static void errors() {
        Document.quote(5, "Returns the error of the latest call of loadMarket.");
        MarkdownMarket m = new MarkdownMarket();
        String[] texts = {"$", "fee 101;", "batch 0 a 1;", "fee 1;fee 1;", A, "fee 101;"};
        int[] codes = {MarkdownMarket.SYNTAX, MarkdownMarket.OUT_OF_RANGE, MarkdownMarket.BAD_NAME,
            MarkdownMarket.MISPLACED, MarkdownMarket.NO_ERROR, MarkdownMarket.OUT_OF_RANGE};
        int[] offsets = {0, 4, 8, 6, -1, 4};
        for (int i = 0; i < texts.length; i++) {
            Check.load(m, texts[i]);
            Check.same(texts[i], m.errorCode(), codes[i]);
            Check.put(m, "fee 1;");
            m.run(1);
            Check.same("it stays till the next load", m.errorCode(), codes[i]);
        }
        Document.quote(5, "Returns an error code; NO_ERROR if that call succeeded or there was no call.");
        Check.same("no call", new MarkdownMarket().errorCode(), MarkdownMarket.NO_ERROR);
        Check.same("an error", m.errorCode(), MarkdownMarket.OUT_OF_RANGE);
        m.truncateInput(0);
        m.loadMarket();
        Check.same("success with an empty text", m.errorCode(), MarkdownMarket.NO_ERROR);
        Document.quote(6, "Returns the offset of the error of the latest call of loadMarket.");
        for (int i = 0; i < texts.length; i++) {
            Check.load(m, texts[i]);
            Check.put(m, "");
            Check.same(texts[i], m.errorOffset(), offsets[i]);
        }
        Document.quote(6, "Returns the offset; -1 if errorCode() is NO_ERROR.");
        Check.same("an error", m.errorOffset(), 4);
        m.loadMarket();
        Check.same("success", m.errorOffset(), -1);
        Check.same("no call", new MarkdownMarket().errorOffset(), -1);
    }

    private static void products() {
        Document.quote(7, "Returns the number of products. Returns the number.");
        MarkdownMarket m = new MarkdownMarket();
        Check.same("none", m.products(), 0);
        Check.load(m, sixProducts());
        Check.same("most", m.products(), 6);
        Check.load(m, "$");
        Check.same("after an error", m.products(), 6);
        Check.load(m, A);
        Check.same("less", m.products(), 1);
    }
}
