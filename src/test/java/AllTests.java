import java.nio.file.Path;

/** Runs every test of the project; its arguments are the file of the class and README.md. */
public final class AllTests {
    private AllTests() {
    }

    public static void main(String[] args) throws Exception {
        FaceTest.run();
        LanguageTest.run(Path.of(args[0]));
        TextTest.run();
        ActTest.run();
        NightTest.run();
        BestTest.run();
        YearTest.run();
        TextBoundsTest.run();
        RuleBoundsTest.run();
        ActBoundsTest.run();
        NightBoundsTest.run();
        QuestionBoundsTest.run();
        RefusedTest.run();
        RoomTest.run();
        ReadmeTest.run(Path.of(args[1]));
        CompareTest.run();
        if (!Check.close()) {
            System.exit(1);
        }
    }
}
