/** Sentences of section 8 that name an edge: troops, remissions, recalls. */
final class EdgesOfGovernorTest {
    private EdgesOfGovernorTest() {
    }

    static void run() {
        troopsAreLackingAny();
        badIsBelow();
        badByTheRegister();
        badWithoutARegister();
        shareOfTheBad();
        halfOfItMore();
        giftsOfTwenty();
        onceAYear();
        addedToWhatIsNotUsed();
        addedInASecondWinter();
        evidenceOfTwo();
        giftsOfAllAreForgotten();
    }

    /** A village sells 1 of grain in winter, so that there are 2 coins. */
    private static Publicanry withTwoCoins(int houses, int fields) {
        Publicanry p = new Publicanry();
        p.village(houses, fields, 0, 9);
        p.pass(3);
        Check.is("two coins", p.ofVillage(0, 5), 2);
        return p;
    }

    private static void troopsAreLackingAny() {
        Publicanry p = withTwoCoins(2, 11);
        Check.isText("2 of 2", Check.row(p.quarter(0), p.ofVillage(0, 5), p.ofVillage(0, 7), p.land(7)), "2 0 0 2");
        Check.isText("0 of 2", Check.row(p.quarter(0), p.ofVillage(0, 5), p.ofVillage(0, 7), p.land(7)), "0 0 3 2");
        Publicanry q = withTwoCoins(3, 16);
        Check.isText("2 of 3", Check.row(q.quarter(0), q.ofVillage(0, 5), q.ofVillage(0, 7), q.land(7)), "2 0 3 2");
        Publicanry r = withTwoCoins(1, 6);
        Check.isText("1 of 1", Check.row(r.quarter(0), r.ofVillage(0, 5), r.ofVillage(0, 7)), "1 1 0");
        Check.isText("1 of 1 again", Check.row(r.quarter(0), r.ofVillage(0, 5), r.ofVillage(0, 7)), "1 0 0");
        Check.isText("0 of 1", Check.row(r.quarter(0), r.ofVillage(0, 5), r.ofVillage(0, 7)), "0 0 3");
        for (int k = 2; k <= 8; k++) {
            r.quarter(0);
            Check.is("20 at most", r.ofVillage(0, 7), Math.min(3 * k, 20));
        }
    }

    /** Its yield is 105 by fields of 100; 105 are due of a register of 200 and 201, 106 of 202. */
    private static void badIsBelow() {
        int[] registers = {100, 200, 201, 202, 300};
        int[] remitted = {0, 0, 0, 30, 30};
        for (int k = 0; k < registers.length; k++) {
            Publicanry p = Made.rich();
            p.village(10, 100, 0, 9);
            Made.lease(p, 0, Made.TENTH, 2, 1, 30);
            p.pass(1);
            for (int had = 100; had < registers[k]; had += 100) {
                p.clear(1, Math.min(registers[k] - had, 100));
            }
            p.survey(1);
            Made.lease(p, 0, Made.PASTURE, 2, 1, 30);
            p.pass(2);
            int lot = Made.lease(p, 0, Made.HEARTH, 2, 1, 30);
            Check.isText("a register of " + registers[k], Check.row(p.ofVillage(1, 8), p.ofVillage(1, 9), p.remit(lot)),
                Check.row(registers[k], 105, remitted[k]));
        }
    }

    /** Land that was cleared behind the harvest does not count till it is surveyed. */
    private static void badByTheRegister() {
        Publicanry p = Made.rich();
        p.village(10, 100, 0, 9);
        p.pass(3);
        for (int k = 0; k < 5; k++) {
            p.clear(1, 100);
        }
        Check.is("not by fields of 600", p.remit(Made.lease(p, 0, Made.TENTH, 2, 1, 30)), 0);
        p.survey(1);
        Check.is("by a register of 600", p.remit(Made.lease(p, 0, Made.HEARTH, 2, 1, 30)), 30);
    }

    private static void badWithoutARegister() {
        Publicanry p = Made.rich();
        p.pass(3);
        p.village(10, 0, 0, 9);
        p.village(10, 1, 0, 9);
        p.village(10, 2, 0, 9);
        for (int village = 1; village <= 3; village++) {
            int lot = Made.lease(p, 0, Made.TENTH, 1 << village, 1, 30);
            Check.is("a yield of 0, a register of " + (village - 1), p.remit(lot), village < 3 ? 0 : 30);
        }
    }

    /** Two villages that are good, and six told in winter that are bad. */
    private static Publicanry winter() {
        Publicanry p = new Publicanry();
        p.village(10, 600, 0, 9);
        p.village(10, 600, 0, 9);
        p.company(2000, 0);
        p.join(0, 99);
        p.pass(3);
        for (int k = 2; k < 8; k++) {
            p.village(10, 600, 0, 9);
        }
        return p;
    }

    private static int remitted(int set, int term, int price, int gifts) {
        Publicanry p = winter();
        int lot = Made.lease(p, 0, Made.TENTH, set, term, price);
        if (gifts > 0) {
            p.gift(0, gifts);
        }
        int remitted = p.remit(lot);
        Check.is("is not used yet", p.ofLot(lot, 9), remitted);
        return remitted;
    }

    private static void shareOfTheBad() {
        Check.is("none of one", remitted(1, 3, 100, 0), 0);
        Check.is("none of two", remitted(3, 3, 100, 0), 0);
        Check.is("one of one", remitted(4, 3, 100, 0), 33);
        Check.is("one of two", remitted(6, 3, 100, 0), 16);
        Check.is("one of three", remitted(7, 3, 100, 0), 11);
        Check.is("two of three", remitted(14, 3, 100, 0), 22);
        Check.is("six of eight", remitted(255, 3, 100, 0), 24);
        Check.is("six of six", remitted(252, 3, 100, 0), 33);
        Check.is("of 2 in three years", remitted(4, 3, 2, 0), 0);
        Check.is("of 3 in three years", remitted(4, 3, 3, 0), 1);
        Check.is("price / term first", remitted(12, 3, 5, 0), 1);
    }

    private static void halfOfItMore() {
        Check.is("of 1", remitted(4, 1, 1, 20), 1);
        Check.is("of 2", remitted(4, 1, 2, 20), 3);
        Check.is("of 3", remitted(4, 1, 3, 20), 4);
        Check.is("of 33", remitted(4, 3, 100, 20), 49);
        Check.is("of 16 of two", remitted(6, 3, 100, 20), 24);
        Check.is("of nothing", remitted(1, 3, 100, 20), 0);
    }

    private static void giftsOfTwenty() {
        int[] gifts = {1, 19, 20, 21, 40};
        for (int had : gifts) {
            for (int set : new int[] {1, 4}) {
                Publicanry p = winter();
                int lot = Made.lease(p, 0, Made.TENTH, set, 1, 10);
                p.gift(0, had);
                int whole = set == 1 ? 0 : 10;
                Check.is("gifts of " + had, p.remit(lot), had < 20 ? whole : whole * 3 / 2);
                Check.isText("spent, also if it is 0", Check.row(p.ofCompany(0, 9), p.land(9), p.land(7)),
                    Check.row(had < 20 ? had : had - 20, had < 20 ? 0 : 1, had));
            }
        }
    }

    private static void onceAYear() {
        Publicanry p = winter();
        int lot = Made.lease(p, 0, Made.TENTH, 4, 5, 50);
        Check.is("10", p.remit(lot), 10);
        Check.isRefused("again", p, () -> p.remit(lot));
        int other = Made.lease(p, 0, Made.TENTH, 8, 5, 50);
        Check.is("of another lot", p.remit(other), 10);
        p.pass(4);
        Check.is("in the next winter, of a good year", p.remit(lot), 0);
        Check.isRefused("again then", p, () -> p.remit(lot));
    }

    private static void addedToWhatIsNotUsed() {
        Publicanry p = winter();
        p.gift(0, 20);
        int lot = Made.lease(p, 0, Made.TENTH, 4, 5, 50);
        Check.is("15", p.remit(lot), 15);
        p.pass(1);
        Check.is("5 are not used", p.ofLot(lot, 9), 5);
        p.pass(4);
        Check.is("used in the second spring", p.ofLot(lot, 9), 0);
    }

    /** In the second year a war brings a yield of 300, and 315 are due of a register of 600. */
    private static void addedInASecondWinter() {
        Publicanry p = Made.rich();
        p.pass(3);
        p.village(10, 500, 0, 9);
        p.gift(0, 20);
        int lot = Made.lease(p, 0, Made.TENTH, 2, 5, 50);
        Check.is("15", p.remit(lot), 15);
        p.pass(1);
        p.war(2);
        p.pass(3);
        p.clear(1, 100);
        p.survey(1);
        Check.isText("10 more", Check.row(p.ofVillage(1, 9), p.remit(lot), p.ofLot(lot, 9)), "300 10 15");
        p.pass(1);
        Check.is("5 are not used", p.ofLot(lot, 9), 5);
    }

    private static Publicanry withEvidence(int many) {
        Publicanry p = winter();
        p.gift(0, 20 * many + 7);
        for (int k = 0; k < many; k++) {
            p.remit(Made.lease(p, 0, Made.TENTH, 4 << k, 1, 4));
        }
        Check.is("evidence", p.land(9), many);
        return p;
    }

    private static void evidenceOfTwo() {
        for (int many = 0; many <= 3; many++) {
            Publicanry p = withEvidence(many);
            int chest = 20 * many + 7;
            int treasury = p.land(6);
            int world = p.land(8);
            int proven = many >= 2 ? chest : 0;
            Check.is("recalled with evidence of " + many, p.recall(), proven);
            Check.isText("chests", Check.row(p.land(7), p.land(6), p.land(8)), Check.row(0, treasury + proven, world + chest - proven));
            Check.isText("gifts and evidence are 0", Check.row(p.ofCompany(0, 9), p.land(9)), "0 0");
            p.gift(0, 5);
            Check.is("the next one begins anew", p.recall(), 0);
        }
    }

    private static void giftsOfAllAreForgotten() {
        Publicanry p = new Publicanry();
        for (int k = 0; k < 4; k++) {
            p.company(0, 0);
            p.join(k, 9);
            p.gift(k, k + 1);
        }
        Check.is("his chest", p.land(7), 10);
        p.recall();
        for (int k = 0; k < 4; k++) {
            Check.isText("gifts and chest", Check.row(p.ofCompany(k, 9), p.ofCompany(k, 2)), Check.row(0, 36 - k - 1));
        }
        Publicanry q = new Publicanry();
        Check.isText("without a company", Check.row(q.recall(), q.recall()), "0 0");
    }
}
