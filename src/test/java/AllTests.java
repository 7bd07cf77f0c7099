/** Runs every test of the project; the argument is the path of Publicanry.java. */
public final class AllTests {
    private AllTests() {
    }

    public static void main(String[] args) throws Exception {
        FaceTest.run(args[0]);
        ThrowsTellingTest.run();
        ThrowsAskingTest.run();
        LandTest.run();
        EdgesOfLandTest.run();
        LawTest.run();
        PeopleTest.run();
        EdgesOfPeopleTest.run();
        CompanyTest.run();
        EdgesOfCompaniesTest.run();
        LotTest.run();
        EdgesOfLotsTest.run();
        CollectTest.run();
        EdgesOfCollectingTest.run();
        TreasuryTest.run();
        EdgesOfTreasuryTest.run();
        SuitTest.run();
        EdgesOfSuitsTest.run();
        GovernorTest.run();
        EdgesOfGovernorTest.run();
        ClerksTest.run();
        EdgesOfClerksTest.run();
        AskedTest.run();
        FullTest.run();
        AnyCallsTest.run();
        if (!Check.close()) {
            System.exit(1);
        }
    }
}
