/** Runs every test of the project; closes with how many passed and failed, ends with 1 if one failed. */
public final class AllTests {
    private AllTests() { }

    public static void main(String[] args) {
        Check check = new Check();
        FaceTests.all(check);
        ReadmeTests.all(check);
        BrookTests.all(check);
        StoneTests.all(check);
        FloodTests.all(check);
        PlanTests.all(check);
        OrderTests.all(check);
        SheetTests.all(check);
        EdgesOfBrooks.all(check);
        EdgesOfStones.all(check);
        EdgesOfWalks.all(check);
        EdgesOfFloods.all(check);
        EdgesOfPlans.all(check);
        EdgesOfOrders.all(check);
        EdgesOfSheets.all(check);
        EdgesOfParts.all(check);
        check.test("texts as the plain model judges them", ModelTests::texts);
        check.test("long runs as the plain model answers them", c -> ModelTests.runs(c, 0, 1500));
        check.test("plans as the plain model finds them", c -> ModelTests.plans(c, 0, 250, 7));
        check.test("plans of short rows", c -> ModelTests.plans(c, 5000, 6500, 4));
        System.out.println(check.passed() + " passed, " + check.failed() + " failed");
        if (check.failed() != 0) {
            System.exit(1);
        }
    }
}
