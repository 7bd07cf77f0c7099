/** Sentences of section 6 that name an edge: instalments, remissions, credit, defaults, the army. */
final class EdgesOfTreasuryTest {
    private EdgesOfTreasuryTest() {
    }

    static void run() {
        firstWithTheRest();
        tillAllFellDue();
        chestIsJustEnough();
        landAtMostWhatIsPledged();
        landOfThatLotAlone();
        bannedInAnySeason();
        allOthersAreOver();
        defaultLotByLot();
        creditAsFarAsItGoes();
        remissionAsFarAsItGoes();
        remissionAheadOfCredit();
        creditOfAnotherLot();
        allOrNothingForTheArmy();
        noInstalmentIsLeft();
    }

    private static void firstWithTheRest() {
        int[][] rows = {{4, 5, 4, 0}, {5, 5, 1, 1}, {6, 5, 2, 1}, {9, 5, 5, 1}, {10, 5, 2, 2}, {1, 1, 1, 0}, {7, 2, 4, 3},
            {8, 3, 4, 2}, {11, 4, 5, 2}, {1, 2, 1, 0}};
        for (int[] row : rows) {
            Publicanry p = Made.rich();
            Made.lease(p, 0, Made.TENTH, 1, row[1], row[0]);
            Check.is("the first one of " + row[0] + " in " + row[1], p.ofCompany(0, 12), row[2]);
            p.pass(4);
            Check.is("and the second one", p.ofCompany(0, 12), row[2] + (row[1] > 1 ? row[3] : 0));
            p.pass(20);
            Check.isText("all of them", Check.row(p.ofCompany(0, 12), p.land(6), p.ofLot(0, 11)), Check.row(row[0], row[0], row[1]));
        }
    }

    private static void tillAllFellDue() {
        for (int season = 0; season < 4; season++) {
            Publicanry p = Made.rich();
            if (season > 0) {
                p.pass(season);
            }
            Made.lease(p, 0, Made.TENTH, 1, 3, 90);
            p.pass(3 - season + 1);
            Check.isText("the second one in the next spring", Check.row(p.ofLot(0, 11), p.land(6)), "2 60");
            p.pass(3);
            Check.isText("no more in that year", Check.row(p.ofLot(0, 11), p.land(6)), "2 60");
            p.pass(1);
            Check.isText("the third one", Check.row(p.ofLot(0, 11), p.land(6)), "3 90");
            p.pass(4);
            Check.isText("and no fourth one", Check.row(p.ofLot(0, 11), p.land(6)), "3 90");
        }
    }

    private static String standing(Publicanry p, int company) {
        return Check.row(p.ofCompany(company, 2), p.ofCompany(company, 0), p.ofCompany(company, 5), p.ofCompany(company, 12), p.land(6));
    }

    private static void chestIsJustEnough() {
        Publicanry p = Made.rich();
        Made.leave(p, 0, 100);
        Made.lease(p, 0, Made.TENTH, 1, 1, 100);
        Check.isText("100 of 100", standing(p, 0), "0 2000 0 100 100");
        Check.is("is leased", p.ofLot(0, 4), 1);
        Publicanry q = Made.rich();
        Made.leave(q, 0, 99);
        Made.lease(q, 0, Made.TENTH, 1, 1, 100);
        Check.isText("99 of 100", standing(q, 0), "0 1999 1 99 100");
        Check.is("is over", q.ofLot(0, 4), 2);
        Publicanry r = Made.rich();
        Made.lease(r, 0, Made.HEARTH, 1, 2, 200);
        Made.leave(r, 0, 100);
        r.pass(4);
        Check.isText("100 of 100 in spring", standing(r, 0), "0 2000 0 200 200");
        Publicanry s = Made.rich();
        Made.lease(s, 0, Made.HEARTH, 1, 2, 200);
        Made.leave(s, 0, 99);
        s.pass(4);
        Check.isText("99 of 100 in spring", standing(s, 0), "0 1999 1 199 200");
    }

    private static void landAtMostWhatIsPledged() {
        int[] coins = {99, 76, 75, 74, 1, 0};
        int[] sold = {1, 24, 25, 25, 25, 25};
        for (int k = 0; k < coins.length; k++) {
            Publicanry p = Made.rich();
            Made.leave(p, 0, coins[k]);
            int lot = p.lot(0, 1, 1, 0);
            p.bid(0, lot, 100);
            int world = p.land(8);
            Check.is("wins with a default", p.award(lot), 0);
            Check.isText("with " + coins[k], standing(p, 0), Check.row(0, 2000 - sold[k], 1, coins[k], coins[k] + sold[k]));
            Check.isText("nothing is pledged, the world paid", Check.row(p.ofCompany(0, 1), p.ofCompany(0, 10), p.land(8)),
                Check.row(0, 0, world - sold[k]));
        }
        Publicanry q = Made.rich();
        Made.leave(q, 0, 0);
        Made.lease(q, 0, Made.TENTH, 1, 1, 3);
        Check.isText("nothing is pledged for 3", standing(q, 0), "0 2000 1 0 0");
    }

    private static void landOfThatLotAlone() {
        Publicanry p = Made.rich();
        Made.lease(p, 0, Made.HEARTH, 1, 5, 100);
        Made.leave(p, 0, 0);
        Check.is("pledged for hearths", p.ofCompany(0, 1), 25);
        Made.lease(p, 0, Made.TENTH, 1, 1, 40);
        Check.isText("10 of the tenth are sold", standing(p, 0), "0 1990 1 20 30");
        Check.isText("both are over", Check.row(p.ofLot(0, 4), p.ofLot(1, 4), p.ofCompany(0, 1)), "2 2 0");
        Publicanry q = Made.rich();
        q.company(10, 0);
        q.join(1, 1);
        Made.leave(q, 1, 0);
        Made.lease(q, 1, Made.TENTH, 1, 1, 43);
        Check.isText("all of its land", standing(q, 1), "0 0 1 0 10");
    }

    private static void bannedInAnySeason() {
        for (int season = 0; season < 4; season++) {
            Publicanry p = Made.rich();
            if (season > 0) {
                p.pass(season);
            }
            Made.leave(p, 0, 10);
            Made.lease(p, 0, Made.TENTH, 1, 1, 40);
            p.pass(20);
            Check.isText("banned for good since season " + season, Check.row(p.ofCompany(0, 5), p.ofLot(0, 4)), "1 2");
        }
    }

    private static void allOthersAreOver() {
        Publicanry p = Made.rich();
        p.company(2000, 0);
        p.join(1, 99);
        p.village(1, 0, 0, 1);
        Made.lease(p, 0, Made.HEARTH, 1, 5, 5);
        Made.lease(p, 1, Made.PASTURE, 1, 5, 5);
        p.lot(0, 2, 1, 0);
        p.bid(0, 2, 4);
        Made.leave(p, 0, 0);
        Made.lease(p, 0, Made.TENTH, 1, 1, 4);
        Check.isText("its own are over, that of another one and one that is offered are not",
            Check.row(p.ofLot(0, 4), p.ofLot(1, 4), p.ofLot(2, 4), p.ofLot(3, 4)), "2 1 0 2");
        Check.isText("no autumns are left of them", Check.row(p.ofLot(0, 8), p.ofLot(3, 8), p.ofLot(1, 8)), "0 0 5");
        p.pass(2);
        Check.isText("they are not collected", Check.row(p.levy(0, 2, 0), p.levy(0, 0, 0), p.levy(0, 1, 0)), "-1 -1 0");
        p.pass(2);
        Check.isText("nor does more fall due", Check.row(p.ofLot(0, 11), p.ofLot(3, 11), p.ofLot(1, 11)), "1 1 2");
    }

    /** What the first lot leaves, the second one finds; behind a default nothing more falls due. */
    private static void defaultLotByLot() {
        Publicanry p = Made.rich();
        p.village(1, 0, 0, 1);
        for (int duty = 0; duty < 3; duty++) {
            Made.lease(p, 0, duty, 2, 2, 40);
        }
        Made.leave(p, 0, 30);
        p.pass(4);
        Check.isText("20, then 10 of 20", standing(p, 0), Check.row(0, 1990, 1, 90, 100));
        Check.isText("what fell due", Check.row(p.ofLot(0, 11), p.ofLot(1, 11), p.ofLot(2, 11)), "2 2 1");
        Publicanry q = Made.rich();
        q.village(1, 0, 0, 1);
        for (int duty = 0; duty < 3; duty++) {
            Made.lease(q, 0, duty, 2, 2, 40);
        }
        Made.leave(q, 0, 60);
        q.pass(4);
        Check.isText("20 thrice", standing(q, 0), Check.row(0, 2000, 0, 120, 120));
    }

    private static void creditAsFarAsItGoes() {
        int[] grain = {1, 9, 10, 11};
        int[] left = {0, 0, 0, 3};
        int[] paid = {27, 3, 0, 0};
        for (int k = 0; k < grain.length; k++) {
            Publicanry p = Made.rich();
            p.deliver(0, grain[k]);
            Made.lease(p, 0, Made.TENTH, 1, 1, 30);
            Check.isText("credit for " + grain[k], Check.row(p.ofCompany(0, 8), p.ofCompany(0, 12), p.land(6), p.ofCompany(0, 2)),
                Check.row(left[k], paid[k], paid[k], 396 - 2 * grain[k] - paid[k]));
        }
        Publicanry q = Made.rich();
        q.deliver(0, 10);
        Made.leave(q, 0, 0);
        Made.lease(q, 0, Made.TENTH, 1, 1, 30);
        Check.isText("no default with an empty chest", Check.row(q.ofCompany(0, 5), q.ofCompany(0, 8)), "0 0");
        Check.isReal("no gain by what it did not pay", q.gain(0), 0.0);
        Publicanry r = Made.rich();
        r.deliver(0, 10);
        Made.leave(r, 0, 0);
        Made.lease(r, 0, Made.TENTH, 1, 1, 31);
        Check.isText("1 is lacking", standing(r, 0), "0 1999 1 0 1");
    }

    /** In winter a bad village, leased for three years at 60, remitted with or without gifts. */
    private static Publicanry remitted(int gifts) {
        Publicanry p = Made.rich();
        p.pass(3);
        p.village(10, 600, 0, 9);
        Made.lease(p, 0, Made.TENTH, 2, 3, 60);
        if (gifts > 0) {
            p.gift(0, gifts);
        }
        p.remit(0);
        return p;
    }

    private static void remissionAsFarAsItGoes() {
        Publicanry p = remitted(0);
        Check.is("just an instalment", p.ofLot(0, 9), 20);
        Made.leave(p, 0, 0);
        p.pass(1);
        Check.isText("no default with an empty chest", Check.row(p.ofLot(0, 9), p.ofLot(0, 11), p.ofCompany(0, 5)), "0 2 0");
        Publicanry q = remitted(20);
        Check.is("half of it more", q.ofLot(0, 9), 30);
        q.pass(1);
        Check.isText("10 are not used yet", Check.row(q.ofLot(0, 9), q.ofCompany(0, 12)), "10 20");
        q.pass(4);
        Check.isText("10 of the third one", Check.row(q.ofLot(0, 9), q.ofCompany(0, 12)), "0 30");
    }

    private static void remissionAheadOfCredit() {
        Publicanry p = remitted(0);
        p.deliver(0, 1);
        p.pass(1);
        Check.isText("the credit stays", Check.row(p.ofLot(0, 9), p.ofCompany(0, 8), p.ofCompany(0, 12)), "0 3 20");
        Publicanry q = remitted(20);
        q.deliver(0, 3);
        q.pass(5);
        Check.isText("10, then 9 by credit, then 1", Check.row(q.ofLot(0, 9), q.ofCompany(0, 8), q.ofCompany(0, 12)), "0 0 21");
    }

    /** What was remitted is of its lot alone, credit of all lots of the company. */
    private static void creditOfAnotherLot() {
        Publicanry p = Made.rich();
        p.pass(3);
        p.village(10, 600, 0, 9);
        Made.lease(p, 0, Made.PASTURE, 2, 3, 60);
        Made.lease(p, 0, Made.TENTH, 2, 3, 60);
        p.remit(1);
        p.deliver(0, 9);
        p.pass(1);
        Check.isText("20 by credit, 20 remitted", Check.row(p.ofLot(0, 9), p.ofLot(1, 9), p.ofCompany(0, 8), p.ofCompany(0, 12)),
            "0 0 7 40");
    }

    private static void allOrNothingForTheArmy() {
        Publicanry p = Made.rich();
        Made.leave(p, 0, 9);
        Check.isRefused("5 for 9", p, () -> p.deliver(0, 5));
        Check.isText("nothing is paid", Check.row(p.ofCompany(0, 2), p.ofCompany(0, 8)), "9 0");
        Check.is("4 for 9", p.deliver(0, 4), 12);
        Check.is("1 is left", p.ofCompany(0, 2), 1);
        Publicanry q = Made.two();
        q.join(0, 99);
        q.join(0, 99);
        Check.is("500", q.deliver(0, 500), 1500);
        Check.is("of 1188", q.ofCompany(0, 2), 188);
    }

    private static void noInstalmentIsLeft() {
        Publicanry p = Made.rich();
        p.company(1000, 1);
        p.company(1000, 1);
        p.lot(0, 1, 5, 0);
        p.bid(1, 0, 40);
        p.bid(2, 0, 30);
        p.award(0);
        Check.isText("a price of 0 without coins", Check.row(p.ofLot(0, 7), p.ofLot(0, 11), p.ofCompany(1, 5)), "0 1 0");
        p.pass(4);
        Check.isText("falls due all the same", Check.row(p.ofLot(0, 11), p.ofCompany(1, 5), p.ofCompany(1, 12)), "2 0 0");
        Check.isReal("no gain by nothing", p.gain(1), 0.0);
    }
}
