/** The whole document, sentence by sentence: each sentence is quoted in front of the test of its boundary cases. */
final class EdgeTest {
    private EdgeTest() {
    }

    public static void main(String[] args) {
        EdgeFirst.test();
        EdgeText.test();
        EdgeDays.test();
        EdgeViews.test();
        EdgeChanges.test();
        EdgeResults.test();
        EdgeRecords.test();
        Document.allIsQuoted();
        Check.finish("EdgeTest");
    }
}
