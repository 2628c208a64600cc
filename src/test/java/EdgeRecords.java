/** Events, constants, and promises 48 to 53, sentence by sentence. */
final class EdgeRecords {
    private EdgeRecords() {
    }

    static void test() {
        latestEvents();
        kinds();
        discardEvents();
        orderOfEvents();
        constants();
        events();
        event();
        printReport();
        outputByte();
        saveState();
        restoreState();
    }

    private static void quote(String words) {
        Document.quote(Document.DESCRIPTION, words);
    }

    private static void events(MarkdownMarket m, String due) {
        Check.same("events", Check.events(m), due);
    }

    private static final String BATCHES = "product a base 10 life 60;" + "batch 0 a 1;".repeat(19);

    private static void latestEvents() {
        quote("Events. The market logs events; the latest 20 are kept, numbered from 0, the oldest one first.");
        MarkdownMarket m = Check.market(BATCHES);
        Check.same("none", m.events(), 0);
        m.run(1);
        Check.same("19", m.events(), 19);
        for (int i = 0; i < 19; i++) {
            Check.same("in order", m.event(i, 2), i);
        }
        m.discard(18);
        Check.same("20", m.events() * 100 + m.event(0, 2), 2000);
        Check.same("the latest one", m.event(19, 1) * 100 + m.event(19, 2), 518);
        for (int i = 0; i < 18; i++) {
            m.discard(i);
            Check.same("not 21", m.events(), 20);
            Check.same("the oldest one", m.event(0, 2), i + 1);
            Check.same("the latest one", m.event(19, 1) * 100 + m.event(19, 2), 500 + i);
        }
        // All 19 deliveries but one are gone by now, and 19 are discarded.
        Check.same("the last delivery", m.event(0, 1) * 100 + m.event(0, 2), 18);
        MarkdownMarket many = Check.market("product a base 10 life 60;batch 0 a 40;" + "buyer 0 a 10;".repeat(40), 1);
        Check.same("41 at once", many.events() * 1000 + many.event(0, 2) * 100 + many.event(19, 2), 20000 + 2039);
    }

    private static void kinds() {
        String text = "fee 50;product a base 10 life 3;batch 0 a 4;buyer 0 a 12;buyer 0 a 13 hold 1;buyer 0 a 9;"
                + "buyer 0 a 14 stale 10 hold 1;buyer 0 a 15 hold 9;";
        String[] quotes = {"0 a batch is delivered (number of the batch, units);",
            "1 a buyer buys a unit that was not held (number of the buyer, price);",
            "2 a hold begins (number of the buyer, price);", "3 a buyer buys the held unit (number of the buyer, price);",
            "4 a hold is cancelled (number of the buyer, deposit);", "5 units of a batch are discarded (number of the batch, "
            + "free and held units together, if there are any);", "6 a buyer leaves without a unit (number of the buyer, value)."};
        String[] due = {"0,0,0,4", "0,1,0,10", "0,2,1,10 0,2,3,10 0,2,4,10", "1,3,1,10", "1,4,3,5", "3,5,0,2",
            "0,6,2,9 1,6,3,14 3,6,4,15"};
        MarkdownMarket m = Check.market(text, 4);
        quote("The kinds are:");
        events(m, "0,0,0,4 0,1,0,10 0,2,1,10 0,2,3,10 0,2,4,10 0,6,2,9 1,3,1,10 1,4,3,5 1,6,3,14 3,5,0,2 3,6,4,15");
        for (int kind = 0; kind < quotes.length; kind++) {
            quote(quotes[kind]);
            StringBuilder found = new StringBuilder();
            for (int i = 0; i < m.events(); i++) {
                if (m.event(i, 1) == kind) {
                    found.append(found.length() == 0 ? "" : " ").append(m.event(i, 0)).append(',').append(kind);
                    found.append(',').append(m.event(i, 2)).append(',').append(m.event(i, 3));
                }
            }
            Check.same("kind " + kind, found.toString(), due[kind]);
        }
    }

    private static void discardEvents() {
        quote("free and held units together, if there are any");
        events(Check.market("product a base 10 life 1;batch 0 a 1;buyer 0 a 10;", 2), "0,0,0,1 0,1,0,10");
        events(Check.market("product a base 10 life 1;batch 0 a 2;buyer 0 a 10;", 2), "0,0,0,2 0,1,0,10 1,5,0,1");
        events(Check.market("product a base 10 life 1;batch 0 a 1;buyer 0 a 10 hold 9;", 2),
                "0,0,0,1 0,2,0,10 1,5,0,1 1,6,0,10");
        events(Check.market("product a base 10 life 1;batch 0 a 50;buyer 0 a 10 hold 9;", 2),
                "0,0,0,50 0,2,0,10 1,5,0,50 1,6,0,10");
        MarkdownMarket m = Check.market("product a base 10 life 1;batch 0 a 2;buyer 0 a 10 hold 9;", 1);
        m.discard(0);
        events(m, "0,0,0,2 0,2,0,10 0,5,0,1");
        m.discard(0);
        events(m, "0,0,0,2 0,2,0,10 0,5,0,1");
        m.run(1);
        events(m, "0,0,0,2 0,2,0,10 0,5,0,1 1,5,0,1 1,6,0,10");
    }

    private static void orderOfEvents() {
        quote("When units are discarded, event 5 comes before the events 6 of the buyers.");
        events(Check.market("product a base 10 life 1;batch 0 a 1;batch 0 a 2;buyer 0 a 10 hold 9;buyer 0 a 11 hold 9;"
                + "buyer 0 a 12 hold 9;", 2), "0,0,0,1 0,0,1,2 0,2,0,10 0,2,1,10 0,2,2,10 1,5,0,1 1,6,0,10 1,5,1,2 1,6,1,11 "
                + "1,6,2,12");
        quote("Events are logged in the order in which they happen; an event belongs to the present day.");
        MarkdownMarket m = Check.market("product a base 10 life 9;batch 0 a 3;buyer 0 a 9 patience 9;buyer 0 a 10 hold 9;"
                + "buyer 1 a 9;", 1);
        m.release(1);
        m.run(1);
        m.sell(0, 0, 1);
        m.discard(0);
        m.run(1);
        events(m, "0,0,0,3 0,2,1,10 0,6,1,10 1,6,2,9 1,1,0,1 1,5,0,2");
    }

    private static void constants() {
        quote("The constants: - NO_ERROR = 0: No error.");
        Check.same("NO_ERROR", MarkdownMarket.NO_ERROR, 0);
        quote("SYNTAX = 1: Error code: the text does not follow the form.");
        Check.same("SYNTAX", MarkdownMarket.SYNTAX, 1);
        quote("OUT_OF_RANGE = 2: Error code: a number is out of range.");
        Check.same("OUT_OF_RANGE", MarkdownMarket.OUT_OF_RANGE, 2);
        quote("BAD_NAME = 3: Error code: a name that is taken or unknown.");
        Check.same("BAD_NAME", MarkdownMarket.BAD_NAME, 3);
        quote("MISPLACED = 4: Error code: a statement or step that cannot stand there.");
        Check.same("MISPLACED", MarkdownMarket.MISPLACED, 4);
        quote("The constructor and the methods follow, a promise each: the signature, then what it does.");
        Check.same("constructors", MarkdownMarket.class.getConstructors().length, 1);
    }

    private static void events() {
        Document.quote(48, "Returns the number of events that are kept. Returns 0 to 20.");
        Check.same("of a new object", new MarkdownMarket().events(), 0);
        MarkdownMarket m = Check.market("product a base 10 life 60;batch 5 a 1;", 5);
        Check.same("quiet days", m.events(), 0);
        m.run(1);
        Check.same("1", m.events(), 1);
        for (int i = 0; i < 23; i++) {
            m.addBatch(0, 1);
        }
        m.run(1);
        Check.same("20 of 24", m.events(), 20);
        Check.load(m, "");
        Check.same("0 again", m.events(), 0);
    }

    private static void event() {
        Document.quote(49, "Returns a property of an event.");
        MarkdownMarket m = Check.market(BATCHES + "batch 1 a 50;batch 2 a 49;", 3);
        int[] due = {2, 0, 20, 49};
        for (int what = 0; what < due.length; what++) {
            Check.same("latest event, property " + what, m.event(19, what), due[what]);
        }
        Document.quote(49, "index: index of the event, 0 for the oldest one");
        Edge.takes(0, 19, index -> m.event(index, 0));
        Check.same("oldest", m.event(0, 2), 1);
        Document.quote(49, "what: 0 the day, 1 the kind, 2 the number of the batch or the buyer, 3 the amount (units, price, "
                + "deposit or value)");
        Edge.takes(0, 3, what -> m.event(0, what));
        MarkdownMarket dear = Check.market("fee 100;product a base 9999 life 9;batch 0 a 9;" + "buyer 0 a 9998;".repeat(39)
                + "buyer 0 a 9999 hold 9;", 1);
        Check.same("value", dear.event(19, 3), 9998);
        Check.same("number", dear.event(19, 2), 38);
        Document.quote(49, "Returns the property.");
        dear.release(39);
        Check.same("of the latest one", dear.event(19, 1) * 100 + dear.event(19, 2), 639);
        Document.quote(49, "Throws NoSuchElementException if there is no such event");
        Edge.refuses(m, Edge.NO_ELEMENT, 0, 19, index -> m.event(index, 0));
        Edge.refuses(m, Edge.NO_ELEMENT, 0, 19, index -> m.event(index, 4));
        MarkdownMarket one = Check.market("product a base 10 life 60;batch 0 a 1;", 1);
        Edge.refuses(one, Edge.NO_ELEMENT, 0, 0, index -> one.event(index, 0));
        MarkdownMarket none = new MarkdownMarket();
        Edge.refuses(none, "none at all", Edge.NO_ELEMENT, () -> none.event(0, 4));
        Document.quote(49, "Throws IllegalArgumentException if what is out of range");
        Edge.refuses(m, Edge.ARGUMENT, 0, 3, what -> m.event(19, what));
        Edge.refuses(m, Edge.ARGUMENT, 0, 3, what -> m.event(0, what));
    }

    private static void report(MarkdownMarket m, String due) {
        Check.same("bytes", m.printReport(), due.length());
        Check.same("report", Check.output(m), due);
    }

    private static void printReport() {
        Document.quote(50, "Writes a report to the output, in place of what it had: for each product by ascending number its name, "
                + "a colon, the units bought, \"/\", the units delivered, a space, the revenue, and a semicolon.");
        MarkdownMarket m = Check.market("product z base 9999 life 9;product abcdefgh base 10 life 9;batch 0 z 39;"
                + "batch 0 abcdefgh 50;batch 0 abcdefgh 50;" + "buyer 0 z 9999;".repeat(39) + "buyer 0 abcdefgh 10 hold 1;");
        report(m, "z:0/0 0;abcdefgh:0/0 0;");
        m.run(1);
        report(m, "z:39/39 389961;abcdefgh:0/100 0;");
        m.run(1);
        report(m, "z:39/39 389961;abcdefgh:1/100 10;");
        report(m, "z:39/39 389961;abcdefgh:1/100 10;");
        Document.quote(50, "Returns the number of bytes.");
        Check.same("of no product", new MarkdownMarket().printReport(), 0);
        Check.same("of one", Check.market("product a base 1 life 1;").printReport(), 8);
        Document.quote(50, "The output does not belong to the state that is saved.");
        MarkdownMarket s = Check.market("product a base 1 life 1;batch 0 a 1;");
        s.printReport();
        s.saveState();
        s.run(1);
        s.printReport();
        s.restoreState();
        Check.same("it stays", Check.output(s), "a:0/1 0;");
        report(s, "a:0/0 0;");
    }

    private static void outputByte() {
        Document.quote(51, "Returns a byte of the output.");
        MarkdownMarket m = Check.market("product zz base 10 life 9;batch 0 zz 1;buyer 0 zz 10;", 1);
        m.printReport();
        String due = "zz:1/1 10;";
        Check.same("its last one", m.outputByte(due.length() - 1), ';');
        Document.quote(51, "index: index of the byte, from 0");
        for (int i = 0; i < due.length(); i++) {
            Check.same("byte " + i, m.outputByte(i), due.charAt(i));
        }
        Document.quote(51, "Returns the byte; -1 if there is no such byte.");
        for (int index : new int[] {-1, Integer.MIN_VALUE, due.length(), due.length() + 1, Integer.MAX_VALUE}) {
            Check.same("with " + index, m.outputByte(index), -1);
        }
        Check.same("nothing is written", Check.market("product a base 1 life 1;").outputByte(0), -1);
        Check.load(m, "");
        m.printReport();
        Check.same("nothing is left", m.outputByte(0), -1);
    }

    private static final String TEXT = "fee 50;product a base 40 life 3 markdown 2 50;product b base 7 life 9;batch 0 a 4;"
            + "batch 2 a 1;batch 0 b 5;buyer 0 a 45;buyer 0 a 45 hold 1;buyer 0 a 30 patience 5;buyer 3 a 90;"
            + "buyer 0 a 40 stale 30 hold 1;buyer 0 b 9 hold 9;buyer 0 b 6;";

    private static void saveState() {
        Document.quote(52, "Saves the whole state, except the input buffer, the reported error and the output,");
        for (int days = 1; days <= 9; days++) {
            MarkdownMarket m = Check.market(TEXT, days);
            String before = Picture.of(m);
            m.saveState();
            changeAll(m);
            String rest = Picture.ofTheRest(m);
            m.restoreState();
            Check.same("the state after days: " + days, Picture.of(m), before);
            Check.same("the rest after days: " + days, Picture.ofTheRest(m), rest);
            m.run(9);
            Check.same("what follows after days: " + days, Picture.of(m), Picture.of(Check.market(TEXT, days + 9)));
        }
        fullLog();
        Document.quote(52, "in place of an earlier saved state.");
        MarkdownMarket m = Check.market(TEXT);
        m.saveState();
        m.run(2);
        m.saveState();
        m.run(2);
        Check.same("the later one", m.restoreState(), 1);
        Check.same("once more", m.restoreState(), 1);
        Document.quote(52, "Returns the present day.");
        Check.same("before the first day", new MarkdownMarket().saveState(), -1);
        Check.same("before the first day of a text", Check.market(TEXT).saveState(), -1);
        Check.same("on the first day", Check.market(TEXT, 1).saveState(), 0);
        Check.same("on day 59", Check.market(TEXT, 60).saveState(), 59);
    }

    private static void fullLog() {
        MarkdownMarket m = Check.market(BATCHES + "batch 1 a 1;".repeat(5), 1);
        m.discard(7);
        String saved = Check.events(m);
        m.saveState();
        Check.same("20 events", m.events(), 20);
        m.run(60);
        Check.same("20 other events", m.event(0, 0) * 10 + m.event(19, 1), 15);
        m.restoreState();
        events(m, saved);
        m.run(1);
        Check.same("the 6th event is the oldest one", saved.endsWith(Check.events(m).replaceAll(" 1,.*", "")), true);
        Check.same("five more", m.event(19, 0) * 100 + m.event(19, 2), 123);
    }

    private static void changeAll(MarkdownMarket m) {
        m.run(1);
        m.printReport();
        m.setFee(1);
        m.setBase(0, 9000);
        m.markDown(0, 1, 3);
        m.removeStep(0, 2);
        m.addBuyer(1, 5, 0, -1, 0, 0);
        m.addBatch(1, 7);
        m.discard(2);
        for (int i = m.holds(); i > 0; i--) {
            m.release(m.hold(0, 0));
        }
        m.run(5);
        Check.load(m, "fee 1; ;");
        Check.put(m, "fee ");
    }

    private static void restoreState() {
        Document.quote(53, "Restores the saved state, which stays saved.");
        MarkdownMarket m = Check.market(TEXT, 1);
        m.saveState();
        String saved = Picture.of(m);
        for (int round = 0; round < 3; round++) {
            changeAll(m);
            m.restoreState();
            Check.same("round " + round, Picture.of(m), saved);
        }
        addedSinceThen();
        Document.quote(53, "Returns the day of that state.");
        Check.same("0", m.restoreState(), 0);
        MarkdownMarket empty = new MarkdownMarket();
        empty.saveState();
        empty.run(60);
        Check.same("-1", empty.restoreState(), -1);
        Check.same("the day", empty.day(), -1);
        Document.quote(53, "Throws IllegalStateException if no state is saved");
        MarkdownMarket none = new MarkdownMarket();
        Edge.refuses(none, "of a new object", Edge.STATE, none::restoreState);
        MarkdownMarket loaded = Check.market(TEXT, 2);
        Edge.refuses(loaded, "of a loaded market", Edge.STATE, loaded::restoreState);
        loaded.saveState();
        Check.load(loaded, "$");
        Check.same("a load with an error keeps it", loaded.restoreState(), 1);
        Check.load(loaded, TEXT);
        Edge.refuses(loaded, "after a load", Edge.STATE, loaded::restoreState);
    }

    /** What was added after the save is no part of the state, though its numbers are given out again. */
    private static void addedSinceThen() {
        MarkdownMarket m = Check.market("product a base 9 life 9;");
        m.saveState();
        m.addBatch(0, 5);
        m.addBuyer(0, 9, 30, -1, 0, 9);
        m.markDown(0, 1, 50);
        m.run(1);
        Check.same("held", m.holds() * 10 + m.mostServed(), 11);
        m.restoreState();
        Check.same("number of the next buyer", m.addBuyer(0, 8, 30, -1, 0, 0), 0);
        m.run(1);
        Check.same("nothing is sold, held or delivered", m.figure(0, 0) + m.figure(0, 1) + m.figure(0, 2) + m.holds(), 0);
        Check.same("nothing is there in hindsight", m.mostServed() + m.hindsight() + m.fixedResult(0, 8), 0);
        Check.same("nothing is the best", m.bestBatch(0), -1);
        Check.fails("no batch", Edge.INDEX, () -> m.discard(0));
        Check.same("no step", m.percentAt(0, 59), 100);
        Check.same("number of the next batch", m.addBatch(0, 1), 0);
        m.run(1);
        Check.same("one unit", m.figure(0, 0) * 10 + m.mostServed(), 11);
    }
}
