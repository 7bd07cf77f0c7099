/** Runs every test of the project; the arguments are the paths of Publicanry.java and of README.md. */
public final class AllTests {
    private AllTests() {
    }

    public static void main(String[] args) throws Exception {
        FaceTest.run(args[0]);
        LanguageTest.run(args[0]);
        ThrowsTellingTest.run();
        ThrowsAskingTest.run();
        LandTest.run();
        EdgesOfLandTest.run();
        LawTest.run();
        PeopleTest.run();
        EdgesOfPeopleTest.run();
        CompanyTest.run();
        EdgesOfCompaniesTest.run();
        LotTest.run();
        EdgesOfLotsTest.run();
        CollectTest.run();
        EdgesOfCollectingTest.run();
        TreasuryTest.run();
        EdgesOfTreasuryTest.run();
        SuitTest.run();
        EdgesOfSuitsTest.run();
        GovernorTest.run();
        EdgesOfGovernorTest.run();
        ClerksTest.run();
        EdgesOfClerksTest.run();
        AskedTest.run();
        FullTest.run();
        AnyCallsTest.run();
        ModelTest.run();
        UnreachedTest.run();
        ReadmeTest.run(args[1], args[0]);
        if (!Check.close()) {
            System.exit(1);
        }
    }
}
