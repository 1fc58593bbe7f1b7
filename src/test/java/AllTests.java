import java.nio.file.Path;

/** Runs every test of the project; its arguments are the paths of AtlasFolder.java and README.md. */
public final class AllTests {

    private AllTests() {
    }

    public static void main(String[] args) throws Exception {
        FaceTest.run();
        TableTest.run();
        AreaTest.run();
        RingTest.run();
        SheetTest.run();
        RefusedTest.run();
        RunsTest.run();
        SourceTest.run(Path.of(args.length > 0 ? args[0] : "src/main/java/AtlasFolder.java"));
        ReadmeTest.run(Path.of(args.length > 1 ? args[1] : "README.md"));
        Check.everyPromiseWasChecked();
        System.out.println(Check.sum());
        if (Check.failures() != 0) {
            System.exit(1);
        }
    }
}
