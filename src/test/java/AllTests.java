import java.nio.file.Path;

/** Runs every test of the project; its argument is the path of AtlasFolder.java. */
public final class AllTests {

    private AllTests() {
    }

    public static void main(String[] args) throws Exception {
        FaceTest.run();
        TableTest.run();
        AreaTest.run();
        RingTest.run();
        SheetTest.run();
        RefusedTest.run();
        RunsTest.run();
        SourceTest.run(Path.of(args.length > 0 ? args[0] : "src/main/java/AtlasFolder.java"));
        Check.everyPromiseWasChecked();
        System.out.println(Check.sum());
        if (Check.failures() != 0) {
            System.exit(1);
        }
    }
}
