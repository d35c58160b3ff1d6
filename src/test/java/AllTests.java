import java.nio.file.Path;

/** Runs every test of the project; its argument is the file of the class. */
public final class AllTests {
    private AllTests() {
    }

    public static void main(String[] args) throws Exception {
        FaceTest.run();
        LanguageTest.run(Path.of(args[0]));
        TextTest.run();
        ActTest.run();
        NightTest.run();
        BestTest.run();
        YearTest.run();
        TextBoundsTest.run();
        RuleBoundsTest.run();
        ActBoundsTest.run();
        NightBoundsTest.run();
        QuestionBoundsTest.run();
        RefusedTest.run();
        RoomTest.run();
        CompareTest.run();
        if (!Check.close()) {
            System.exit(1);
        }
    }
}
