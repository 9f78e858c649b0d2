/** Runs every test of the project; the argument is the path of SpringFarms.java. */
public final class AllTests {
    public static void main(String[] args) {
        FarmsTests.run();
        HoursTests.run();
        MuchTests.run();
        HeardTests.run();
        RefusalTests.run();
        RandomTests.run();
        RoomTests.run();
        LanguageTests.run(args.length > 0 ? args[0] : "src/main/java/SpringFarms.java");
        if (!Check.close()) {
            System.exit(1);
        }
    }

    private AllTests() {
    }
}
