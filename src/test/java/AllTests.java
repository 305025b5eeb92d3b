/** Runs every test of the project; the arguments are the paths of the program's file and of README.md. */
public final class AllTests {
    private AllTests() {
    }

    public static void main(String[] args) throws Exception {
        FaceTest.runAll(args.length > 0 ? args[0] : "src/main/java/WageHats.java");
        ReadmeTest.runAll(args.length > 1 ? args[1] : "README.md");
        TownTest.runAll();
        FaultTest.runAll();
        GrammarTest.runAll();
        WorthTest.runAll();
        HatsTest.runAll();
        WeeksTest.runAll();
        ImageTest.runAll();
        TextEdges.runAll();
        CallEdges.runAll();
        WorthEdges.runAll();
        HatEdges.runAll();
        WeekEdges.runAll();
        FuzzTest.runAll();
        ModelTest.runAll();
        System.out.println(Check.summary());
        if (Check.failures() > 0) {
            System.exit(1);
        }
    }
}
