/** Runs every test of the project; the arguments are the paths of SpringFarms.java and of README.md. */
public final class AllTests {
    private static final int PROMISES = 33;

    public static void main(String[] args) {
        FarmsTests.run();
        HoursTests.run();
        MuchTests.run();
        HeardTests.run();
        EdgesOfTerms.run();
        EdgesOfFarms.run();
        EdgesOfHours.run();
        EdgesOfMuch.run();
        EdgesOfHeard.run();
        EdgesOfYears.run();
        EdgesOfRefusals.run();
        RefusalTests.run();
        RandomTests.run();
        RoomTests.run();
        LanguageTests.run(args.length > 0 ? args[0] : "src/main/java/SpringFarms.java");
        ReadmeTests.run(args.length > 1 ? args[1] : "README.md");
        Check.test("each promise has tests of its own", AllTests::eachPromise);
        if (!Check.close()) {
            System.exit(1);
        }
    }

    private static void eachPromise() {
        for (int promise = 1; promise <= PROMISES; promise++) {
            Check.holds("promise " + promise + " has tests", Check.count("promise " + promise + ":") > 1);
        }
    }

    private AllTests() {
    }
}
