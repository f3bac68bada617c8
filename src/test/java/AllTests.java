/** Runs every test of the project; ends with exit code 1 if one fails. */
public final class AllTests {
    private AllTests() {
    }

    public static void main(String[] args) {
        FaceTest.run();
        ReadmeTest.run();
        RowsTest.run();
        RowsEdgesTest.run();
        FormsTest.run();
        FormsEdgesTest.run();
        SetsTest.run();
        SetsEdgesTest.run();
        KeptTest.run();
        KeptEdgesTest.run();
        PhraseTest.run();
        PhraseEdgesTest.run();
        RangesTest.run();
        ModelTest.run();
        System.out.println(Check.passed + " passed, " + Check.failed + " failed");
        if (Check.failed != 0) {
            System.exit(1);
        }
    }
}
