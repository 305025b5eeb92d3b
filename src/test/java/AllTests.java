/** Runs every test of the project; the first argument is the path of the program's file. */
public final class AllTests {
    private AllTests() {
    }

    public static void main(String[] args) throws Exception {
        FaceTest.runAll(args.length > 0 ? args[0] : "src/main/java/WageHats.java");
        TownTest.runAll();
        FaultTest.runAll();
        WorthTest.runAll();
        HatsTest.runAll();
        WeeksTest.runAll();
        ImageTest.runAll();
        TextEdges.runAll();
        CallEdges.runAll();
        WorthEdges.runAll();
        HatEdges.runAll();
        WeekEdges.runAll();
        FuzzTest.runAll();
        ModelTest.runAll();
        System.out.println(Check.summary());
        if (Check.failures() > 0) {
            System.exit(1);
        }
    }
}
