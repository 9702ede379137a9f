/** Runs every test of the project. */
public final class AllTests {
    private AllTests() {
    }

    public static void main(String[] args) {
        FaceTests.run();
        MatrixTests.run();
        MatrixRefusals.run();
        LineTests.run();
        LineRefusals.run();
        PotTests.run();
        PotRefusals.run();
        CopyTests.run();
        CopyRefusals.run();
        SlugTests.run();
        SlugRefusals.run();
        LineTerms.run();
        RunningTerms.run();
        SettingTerms.run();
        ProofTerms.run();
        ExceptionTerms.run();
        ReadmeTests.run();
        RandomTests.run();
        DocTests.run();
        Check.end();
    }
}
