/** The «Throws» sentences of promises 27 to 42: of each number what is allowed, what is beyond, what comes first. */
final class ThrowsAskingTest {
    private ThrowsAskingTest() {
    }

    static void run() {
        whatIsAsked();
        whatIsNotThere();
        dutiesAsked();
        partners();
        whatWouldBe();
        whichComesFirst();
        nothingThere();
    }

    private static void whatIsAsked() {
        Edges.bounds("of a village, what", Made::two, 0, 13, (p, n) -> p.ofVillage(1, n));
        Edges.bounds("levy, what", Made::leased, 0, 5, (p, n) -> p.levy(1, 2, n));
        Edges.bounds("law, what", Made::two, 0, 4, (p, n) -> p.law(2, n));
        Edges.bounds("of a company, what", Made::leased, 0, 12, (p, n) -> p.ofCompany(1, n));
        Edges.bounds("of a lot, what", Made::leased, 0, 11, (p, n) -> p.ofLot(1, n));
        Edges.bounds("land, what", Publicanry::new, 0, 16, (p, n) -> p.land(n));
    }

    private static void whatIsNotThere() {
        Edges.index("of village", Made::two, 2, (p, n) -> p.ofVillage(n, 0));
        Edges.index("due of village", Made::two, 2, (p, n) -> p.due(n, 0, true));
        Edges.index("levy of village", Made::two, 2, (p, n) -> p.levy(n, 0, 0));
        Edges.index("of company", Made::two, 2, (p, n) -> p.ofCompany(n, 0));
        Edges.index("of lot", Made::two, 2, (p, n) -> p.ofLot(n, 0));
        Edges.index("tell village", Made::two, 2, (p, n) -> p.tell(n));
        Edges.index("gain of company", Made::two, 2, (p, n) -> p.gain(n));
        Edges.index("would bring, lot", Made::two, 2, (p, n) -> p.wouldBring(n, 0));
        Edges.index("best force of lot", Made::two, 2, (p, n) -> p.bestForce(n));
        Edges.index("votes of village", Made::two, 2, (p, n) -> p.votes(n, 0, 0, 0));
        Edges.index("harvest of village", Made::two, 2, (p, n) -> p.harvest(n, 0));
    }

    private static void dutiesAsked() {
        Edges.index("due of duty by the stone", Made::two, 3, (p, n) -> p.due(1, n, false));
        Edges.index("due of duty by the law", Made::two, 3, (p, n) -> p.due(1, n, true));
        Edges.index("levy of duty", Made::two, 3, (p, n) -> p.levy(1, n, 0));
        Edges.index("law of duty", Publicanry::new, 3, (p, n) -> p.law(n, 0));
        Edges.index("votes of duty", Made::two, 3, (p, n) -> p.votes(1, n, 0, 0));
        Edges.index("direct of duty", Publicanry::new, 3, (p, n) -> p.direct(n));
    }

    private static Publicanry fivePartners() {
        Publicanry p = Made.two();
        for (int k = 1; k < 5; k++) {
            p.join(1, k);
        }
        return p;
    }

    private static void partners() {
        Edges.index("shares, company", Made::two, 2, (p, n) -> p.partner(n, 0, false));
        Edges.index("told, company", Made::two, 2, (p, n) -> p.partner(n, 0, true));
        Edges.index("shares, one partner", Made::two, 1, (p, n) -> p.partner(0, n, false));
        Edges.index("shares, five partners", ThrowsAskingTest::fivePartners, 5, (p, n) -> p.partner(1, n, false));
        Edges.index("told, five partners", ThrowsAskingTest::fivePartners, 5, (p, n) -> p.partner(1, n, true));
        Publicanry p = fivePartners();
        Check.noSuch("a partner of another company", p, () -> p.partner(0, 1, false));
        p.company(1, 1);
        Check.noSuch("of one without a partner", p, () -> p.partner(2, 0, false));
    }

    private static void whatWouldBe() {
        Edges.bounds("would bring, force", Made::two, 0, 3, (p, n) -> p.wouldBring(1, n));
        Edges.bounds("votes, got", Made::two, 0, 9999, (p, n) -> p.votes(1, 2, n, 3));
        Edges.bounds("votes, bidders", Made::two, 0, 7, (p, n) -> p.votes(1, 2, 100, n));
        Edges.bounds("harvest, sky", Made::two, 0, 10, (p, n) -> p.harvest(1, n));
    }

    private static void whichComesFirst() {
        Publicanry p = Made.two();
        Check.noSuch("of village 2, what 14", p, () -> p.ofVillage(2, 14));
        Check.noSuch("of village -1, what -1", p, () -> p.ofVillage(-1, -1));
        Check.noSuch("levy of village 2, what 6", p, () -> p.levy(2, 0, 6));
        Check.noSuch("levy of duty 3, what 6", p, () -> p.levy(0, 3, 6));
        Check.noSuch("law of duty 3, what 5", p, () -> p.law(3, 5));
        Check.noSuch("of company 2, what 13", p, () -> p.ofCompany(2, 13));
        Check.noSuch("of lot 2, what 12", p, () -> p.ofLot(2, 12));
        Check.noSuch("would bring, lot 2, force 4", p, () -> p.wouldBring(2, 4));
        Check.noSuch("votes of village 2, got -1", p, () -> p.votes(2, 0, -1, 0));
        Check.noSuch("votes of duty 3, bidders 8", p, () -> p.votes(0, 3, 0, 8));
        Check.noSuch("harvest of village 2, sky 11", p, () -> p.harvest(2, 11));
    }

    private static void nothingThere() {
        Publicanry p = new Publicanry();
        Check.noSuch("of village 0", p, () -> p.ofVillage(0, 0));
        Check.noSuch("due of village 0", p, () -> p.due(0, 0, false));
        Check.noSuch("levy of village 0", p, () -> p.levy(0, 0, 0));
        Check.noSuch("of company 0", p, () -> p.ofCompany(0, 0));
        Check.noSuch("partner of company 0", p, () -> p.partner(0, 0, false));
        Check.noSuch("of lot 0", p, () -> p.ofLot(0, 0));
        Check.noSuch("tell village 0", p, () -> p.tell(0));
        Check.noSuch("gain of company 0", p, () -> p.gain(0));
        Check.noSuch("would bring, lot 0", p, () -> p.wouldBring(0, 0));
        Check.noSuch("best force of lot 0", p, () -> p.bestForce(0));
        Check.noSuch("votes of village 0", p, () -> p.votes(0, 0, 0, 0));
        Check.noSuch("harvest of village 0", p, () -> p.harvest(0, 0));
        Check.noSuch("would win, lot 0", p, () -> p.wouldWin(0));
        Check.is("direct of none", p.direct(0), 0);
        Check.is("sound", p.isSound(), true);
    }
}
