/** Runs every test of the project. */
public final class AllTests {
    private AllTests() {
    }

    public static void main(String[] args) {
        FaceTests.run();
        MatrixTests.run();
        LineTests.run();
        PotTests.run();
        CopyTests.run();
        ProofTests.run();
        SlugTests.run();
        RandomTests.run();
        Check.end();
    }
}
