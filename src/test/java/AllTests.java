/** Runs every test of the project; the argument is the path of SpringFarms.java. */
public final class AllTests {
    private static final int PROMISES = 33;

    public static void main(String[] args) {
        FarmsTests.run();
        HoursTests.run();
        MuchTests.run();
        HeardTests.run();
        EdgesOfTerms.run();
        EdgesOfFarms.run();
        EdgesOfHours.run();
        EdgesOfMuch.run();
        EdgesOfHeard.run();
        EdgesOfYears.run();
        EdgesOfRefusals.run();
        RefusalTests.run();
        RandomTests.run();
        RoomTests.run();
        LanguageTests.run(args.length > 0 ? args[0] : "src/main/java/SpringFarms.java");
        Check.test("each promise has tests of its own", AllTests::eachPromise);
        if (!Check.close()) {
            System.exit(1);
        }
    }

    private static void eachPromise() {
        for (int promise = 1; promise <= PROMISES; promise++) {
            Check.holds("promise " + promise + " has tests", Check.count("promise " + promise + ":") > 1);
        }
    }

    private AllTests() {
    }
}
