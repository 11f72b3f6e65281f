import java.nio.file.Path;

/** All tests of the project. The arguments are the paths of HuntersIntroduced.java and of README.md. */
public final class AllTests {
    private AllTests() {
    }

    public static void main(String[] args) throws Exception {
        FacePromises.run(Path.of(args[0]));
        ReadmePromises.run(Path.of(args[1]));
        EndsPromises.run();
        TermPromises.run();
        ForestPromises.run();
        TextPromises.run();
        IntroductionPromises.run();
        ShotPromises.run();
        BestPromises.run();
        ToldPromises.run();
        LotsPromises.run();
        HostPromises.run();
        EdgeSweep.run();
        WildCalls.run();
        System.out.println(Check.summary());
        if (Check.failed() != 0) {
            System.exit(1);
        }
    }
}
