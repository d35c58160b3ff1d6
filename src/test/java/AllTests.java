/** Runs every test of the project; its argument is the file of the class. */
public final class AllTests {
    private AllTests() {
    }

    public static void main(String[] args) throws Exception {
        CompareTest.run();
        if (!Check.close()) {
            System.exit(1);
        }
    }
}
