/** Sentences of section 7 that name an edge: judges, what is over, favours, what is paid. */
final class EdgesOfSuitsTest {
    private EdgesOfSuitsTest() {
    }

    static void run() {
        judgesForIt();
        halfOfLittle();
        fourOrMore();
        moreThanHalf();
        nothingIsOver();
        giftsOfFifty();
        favoursAreSpent();
        paidAsFarAsItGoes();
        unrestOfSuits();
        inTheYearOfIt();
        bannedPaysStill();
        dueAsItWasThen();
        theCompanyOfTheLatestLevy();
        notWhatLeviesBrought();
    }

    private static void judgesForIt() {
        Publicanry p = Made.rich();
        for (int bidders = 0; bidders <= 7; bidders++) {
            Check.isText("due 20, bidders " + bidders, Check.row(p.votes(0, 2, 0, bidders), p.votes(0, 2, 19, bidders),
                p.votes(0, 2, 20, bidders), p.votes(0, 2, 21, bidders), p.votes(0, 2, 30, bidders), p.votes(0, 2, 31, bidders),
                p.votes(0, 2, 9999, bidders)), Check.row(0, 0, 0, 7 - bidders, 7 - bidders, 7, 7));
            Check.isText("due 0, bidders " + bidders, Check.row(p.votes(0, 0, 0, bidders), p.votes(0, 0, 1, bidders)), "0 7");
        }
    }

    /** Half of 1 is 0, half of 3 is 1. */
    private static void halfOfLittle() {
        Publicanry p = new Publicanry();
        p.village(1, 0, 10, 1);
        p.village(1, 0, 30, 1);
        Check.isText("of 1", Check.row(p.votes(0, 1, 1, 3), p.votes(0, 1, 2, 3)), "0 7");
        Check.isText("of 3", Check.row(p.votes(1, 1, 3, 3), p.votes(1, 1, 4, 3), p.votes(1, 1, 5, 3)), "0 4 7");
        Check.isText("of 2", Check.row(p.votes(0, 2, 2, 3), p.votes(0, 2, 3, 3), p.votes(0, 2, 4, 3)), "0 4 7");
    }

    private static void fourOrMore() {
        for (int bidders = 0; bidders <= 7; bidders++) {
            Publicanry p = Made.collected(Made.HEARTH, 3);
            p.bench(bidders);
            int votes = p.votes(0, 2, p.levy(0, 2, 2), bidders);
            Check.is("for 7 over 20", votes, 7 - bidders);
            Check.is("won with 4 or more", p.sue(0, 2), bidders <= 3 ? 1 : 0);
            Check.isText("counted", Check.row(p.land(10), p.land(11), p.land(12)), bidders <= 3 ? "1 0 0" : "0 1 0");
        }
    }

    /** The stone asks 12 of 100, the law 11: of a herd of 200 24 and 22, of 209 25 and 22. */
    private static Publicanry stoneAboveTheLaw(int herd) {
        Publicanry p = new Publicanry();
        p.company(2000, 0);
        p.join(0, 99);
        p.force(0, 3);
        p.edict(1, 12, 0);
        p.pass(4);
        p.edict(1, 11, 0);
        p.pass(3);
        p.village(10, 600, herd, 9);
        p.pass(1);
        Made.lease(p, 0, Made.PASTURE, 1, 1, 4);
        p.pass(2);
        return p;
    }

    private static void moreThanHalf() {
        for (int bidders = 0; bidders <= 7; bidders++) {
            Publicanry p = stoneAboveTheLaw(182);
            p.bench(bidders);
            Check.isText("33 got, 22 due", Check.row(p.levy(0, 1, 2), p.levy(0, 1, 3)), "33 22");
            Check.is("11 is not more than half", p.sue(0, 1), bidders <= 3 ? 1 : 0);
            Check.is("twice 11", p.ofVillage(0, 5), bidders <= 3 ? 22 : 0);
            Publicanry q = stoneAboveTheLaw(190);
            q.bench(bidders);
            Check.isText("34 got, 22 due", Check.row(q.levy(0, 1, 2), q.levy(0, 1, 3)), "34 22");
            Check.is("12 is more than half", q.sue(0, 1), 1);
            Check.is("twice 12", q.ofVillage(0, 5), 24);
        }
    }

    private static void nothingIsOver() {
        Publicanry p = new Publicanry();
        p.village(1, 0, 0, 1);
        p.company(100, 0);
        p.join(0, 9);
        p.force(0, 3);
        p.bench(0);
        Made.lease(p, 0, Made.HEARTH, 1, 1, 4);
        p.pass(2);
        Check.isText("2 got, 2 due", Check.row(p.levy(0, 2, 2), p.levy(0, 2, 3)), "2 2");
        Check.is("0 is not above 0", p.sue(0, 2), 0);
        Publicanry q = Made.collected(Made.TENTH, 2);
        q.bench(0);
        Check.isText("69 got, 63 due", Check.row(q.levy(0, 0, 2), q.levy(0, 0, 3)), "69 63");
        Check.is("6 is", q.sue(0, 0), 1);
        Publicanry r = Made.collected(Made.TENTH, 1);
        r.bench(0);
        Check.is("53 of 63 is not", r.sue(0, 0), 0);
    }

    private static void giftsOfFifty() {
        int[] gifts = {1, 49, 50, 51, 100};
        for (int had : gifts) {
            Publicanry p = Made.collected(Made.HEARTH, 3);
            p.gift(0, had);
            int unrest = p.ofVillage(0, 7);
            Check.is("gifts of " + had, p.sue(0, 2), had < 50 ? 1 : 2);
            Check.isText("not spent, evidence", Check.row(p.ofCompany(0, 9), p.land(9)), had < 50 ? had + " 0" : (had - 50) + " 1");
            Check.isText("paid, unrest", Check.row(p.ofVillage(0, 5), p.ofVillage(0, 7)), had < 50 ? "14 0" : "0 " + unrest);
            Check.is("his chest stays", p.land(7), had);
            Check.is("sued for", p.levy(0, 2, 5), 1);
        }
    }

    private static void favoursAreSpent() {
        for (int had : new int[] {99, 100}) {
            Publicanry p = Made.rich();
            Made.lease(p, 0, Made.HEARTH, 1, 1, 4);
            Made.lease(p, 0, Made.TENTH, 1, 1, 4);
            p.force(0, 3);
            p.pass(2);
            p.gift(0, had - 40);
            p.gift(0, 40);
            Check.is("the first one", p.sue(0, 2), 2);
            Check.is("49 or 50 are left", p.sue(0, 0), had == 99 ? 1 : 2);
            Check.isText("set aside, won, evidence", Check.row(p.land(12), p.land(10), p.land(9)), had == 99 ? "1 1 1" : "2 0 2");
        }
        Publicanry q = Made.collected(Made.HEARTH, 3);
        q.gift(0, 50);
        q.bench(4);
        Check.isText("lost without a favour", Check.row(q.sue(0, 2), q.ofCompany(0, 9), q.land(9)), "0 50 0");
        Publicanry r = Made.collected(Made.HEARTH, 3);
        r.gift(0, 50);
        r.recall();
        Check.is("another one owes nothing", r.sue(0, 2), 1);
    }

    private static void paidAsFarAsItGoes() {
        int[] coins = {93, 92, 91, 1, 0};
        for (int had : coins) {
            Publicanry p = Made.collected(Made.TENTH, 3);
            Made.leave(p, 0, had);
            Check.is("won", p.sue(0, 0), 1);
            Check.isText("92 of " + had, Check.row(p.ofVillage(0, 5), p.ofCompany(0, 2)),
                Check.row(Math.min(had, 92), Math.max(had - 92, 0)));
            Check.isText("won, no default", Check.row(p.land(10), p.ofCompany(0, 5)), "1 0");
        }
    }

    private static void unrestOfSuits() {
        int[] quarters = {0, 1, 6};
        for (int many : quarters) {
            Publicanry p = Made.collected(Made.HEARTH, 3);
            for (int k = 0; k < many; k++) {
                p.quarter(0);
            }
            int unrest = p.ofVillage(0, 7);
            Check.is("ahead of it", unrest, Math.min(2 + 3 * many, 20));
            p.sue(0, 2);
            Check.is("won: 2 less", p.ofVillage(0, 7), unrest - 2);
            Publicanry q = Made.collected(Made.HEARTH, 3);
            q.bench(7);
            for (int k = 0; k < many; k++) {
                q.quarter(0);
            }
            q.sue(0, 2);
            Check.is("lost: 1 more, 20 at most", q.ofVillage(0, 7), Math.min(unrest + 1, 20));
        }
        Publicanry r = Made.collected(Made.HEARTH, 3);
        r.pass(1);
        r.sue(0, 2);
        Check.is("won with unrest of 1: 0 at least", r.ofVillage(0, 7), 0);
    }

    private static void inTheYearOfIt() {
        Publicanry p = Made.collected(Made.HEARTH, 3);
        p.pass(1);
        Check.is("in winter", p.sue(0, 2), 1);
        Publicanry q = Made.collected(Made.HEARTH, 3);
        q.pass(2);
        Check.isRefused("in spring", q, () -> q.sue(0, 2));
        Check.is("it was not sued for", q.levy(0, 2, 5), 0);
    }

    private static void bannedPaysStill() {
        Publicanry p = Made.collected(Made.HEARTH, 3);
        Made.leave(p, 0, 0);
        Made.lease(p, 0, Made.TENTH, 1, 1, 40);
        Check.is("banned", p.ofCompany(0, 5), 1);
        p.join(0, 3);
        Check.is("won", p.sue(0, 2), 1);
        Check.isText("12 of 14", Check.row(p.ofVillage(0, 5), p.ofCompany(0, 2)), "12 0");
    }

    /** What judges go by is kept with the levy: houses that fled behind it do not count. */
    private static void dueAsItWasThen() {
        Publicanry p = new Publicanry();
        p.village(10, 0, 0, 1);
        p.company(2000, 0);
        p.join(0, 99);
        p.force(0, 3);
        p.pass(4);
        Made.lease(p, 0, Made.HEARTH, 1, 1, 4);
        p.pass(3);
        Check.isText("fled", Check.row(p.ofVillage(0, 0), p.due(0, 2, true), p.levy(0, 2, 3)), "8 16 20");
        p.sue(0, 2);
        Check.is("twice 7", p.ofVillage(0, 5), 14);
    }

    private static void theCompanyOfTheLatestLevy() {
        Publicanry p = Made.collected(Made.HEARTH, 3);
        p.company(1000, 0);
        p.join(1, 99);
        p.gift(0, 100);
        p.pass(2);
        Made.lease(p, 1, Made.HEARTH, 1, 1, 40);
        p.force(1, 3);
        p.pass(2);
        int coins = p.ofCompany(0, 2);
        Check.is("gifts of the one before do not count", p.sue(0, 2), 1);
        Check.isText("that of the latest levy pays", Check.row(p.ofCompany(0, 2), p.ofCompany(1, 2), p.ofCompany(0, 9)),
            Check.row(coins, 396 - 40 + 27 - 14, 100));
    }

    private static void notWhatLeviesBrought() {
        Publicanry p = Made.collected(Made.HEARTH, 3);
        p.sue(0, 2);
        Check.isText("brought, and the gain of it", Check.row(p.ofCompany(0, 11), p.ofCompany(0, 12)), "27 40");
    }
}
