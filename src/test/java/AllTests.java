/** Runs every test of the project; with the argument "names" it tells those that passed, too. */
public final class AllTests {
    private AllTests() {
    }

    public static void main(String[] args) {
        Checks checks = new Checks(args.length > 0 && args[0].equals("names"));
        new FaceTests(checks).run();
        new ReadmeTests(checks).run();
        new GroundTests(checks).run();
        new HireTests(checks).run();
        new TextTests(checks).run();
        new HistoryTests(checks).run();
        new ToldTests(checks).run();
        new WouldBeTests(checks).run();
        new HoursEdges(checks).run();
        new StockEdges(checks).run();
        new HireEdges(checks).run();
        new HourEdges(checks).run();
        new TextEdges(checks).run();
        new HistoryEdges(checks).run();
        new ErrorEdges(checks).run();
        new RandomTests(checks).run();
        System.exit(checks.close());
    }
}
