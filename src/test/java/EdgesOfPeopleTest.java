/** Sentences of section 3 that name an edge: eating, buying, borrowing, debts, flight, unrest, revolt. */
final class EdgesOfPeopleTest {
    private EdgesOfPeopleTest() {
    }

    static void run() {
        justEnoughGrain();
        wholeOnesOfGrain();
        allThatIsLackingIsBought();
        debtsGrow();
        debtsGrowAheadOfBorrowing();
        flightAboveTwelve();
        aFifthOfHouses();
        sellByTheHousesThatAreLeft();
        unrestIsOneLess();
        unrestAtMost();
        revoltFromTwelve();
        revoltByAFlight();
        revoltTillLessThanFive();
        revoltPaysNoDuties();
        revoltIsAskedOnceASeason();
    }

    private static String people(Publicanry p) {
        return Check.row(p.ofVillage(0, 0), p.ofVillage(0, 4), p.ofVillage(0, 5), p.ofVillage(0, 6));
    }

    /** In season 5 there is grain of 9. */
    private static void justEnoughGrain() {
        String[] want = {"8 1 0 0", "9 0 0 0", "10 0 0 4"};
        for (int k = 0; k < want.length; k++) {
            Publicanry p = new Publicanry();
            p.village(8 + k, 40, 0, 1);
            p.pass(5);
            Check.isText("houses, grain, chest, debt", people(p), want[k]);
        }
    }

    /** Hearths were collected with a force of 3 in the first year and sued for in its winter. */
    private static Publicanry suedInWinter(int houses, int fields) {
        Publicanry p = new Publicanry();
        p.village(houses, fields, 0, 1);
        p.company(2000, 0);
        p.join(0, 99);
        p.force(0, 3);
        Made.lease(p, 0, Made.HEARTH, 1, 1, 4);
        p.pass(3);
        Check.is("won", p.sue(0, 2), 1);
        return p;
    }

    private static void wholeOnesOfGrain() {
        int[] houses = {5, 6, 7, 8};
        String[] want = {"5 0 1 34", "6 0 2 42", "7 0 0 45", "8 0 1 53"};
        for (int k = 0; k < houses.length; k++) {
            Publicanry p = suedInWinter(houses[k], 0);
            p.quarter(0);
            Check.is("a chest of " + (k + 1), p.ofVillage(0, 5), k + 1);
            p.pass(2);
            Check.isText("bought by " + (k + 1), people(p), want[k]);
        }
        Publicanry q = suedInWinter(10, 0);
        Check.is("a chest of 14", q.ofVillage(0, 5), 14);
        q.pass(2);
        Check.isText("4 are bought, 6 are borrowed for", people(q), "10 0 2 55");
    }

    private static void allThatIsLackingIsBought() {
        Publicanry p = suedInWinter(10, 40);
        p.pass(2);
        Check.isText("1 is lacking and bought by 14", people(p), "10 0 11 31");
        Publicanry q = suedInWinter(7, 27);
        q.quarter(0);
        q.pass(2);
        Check.isText("1 is lacking and bought by 3", people(q), "7 0 0 21");
        Publicanry r = suedInWinter(6, 23);
        r.quarter(0);
        r.pass(2);
        Check.isText("1 is lacking, 2 are too few", people(r), "6 0 2 22");
    }

    /** Its herd lets a village of ten houses borrow just that in autumn. */
    private static Publicanry owing(int herd, int debt) {
        Publicanry p = Made.rich();
        p.village(10, 0, herd, 1);
        p.force(0, 2);
        Made.lease(p, 0, Made.PASTURE, 2, 1, 4);
        p.pass(2);
        Check.is("a debt", p.ofVillage(1, 6), debt);
        return p;
    }

    private static void debtsGrow() {
        int[] herds = {10, 50, 60, 110};
        int[] debts = {1, 6, 7, 14};
        int[] then = {1, 6, 8, 16};
        for (int k = 0; k < herds.length; k++) {
            Publicanry p = owing(herds[k], debts[k]);
            p.pass(1);
            Check.is("in winter", p.ofVillage(1, 6), debts[k]);
            p.pass(1);
            Check.is("3 of 20 in spring", p.ofVillage(1, 6), then[k]);
        }
    }

    private static void debtsGrowAheadOfBorrowing() {
        Publicanry p = new Publicanry();
        p.village(9, 0, 0, 1);
        p.pass(7);
        Check.isText("in winter", people(p), "9 0 0 108");
        p.pass(1);
        Check.isText("(108 + 16 + 36) / 2, and one house fled", people(p), "8 0 0 80");
    }

    private static void flightAboveTwelve() {
        int[] houses = {1, 2, 10, 90};
        for (int had : houses) {
            Publicanry p = new Publicanry();
            p.village(had, 0, 0, 1);
            p.quarter(0);
            p.pass(7);
            Check.isText("12 for each house hold", people(p), Check.row(had, 0, 0, 12 * had));
            Check.is("nobody fled", p.ofVillage(0, 13), 0);
            Check.is("unrest is less", p.ofVillage(0, 7), 0);
        }
        Publicanry q = new Publicanry();
        q.village(10, 0, 10, 1);
        q.company(2000, 0);
        q.join(0, 99);
        q.force(0, 2);
        q.pass(4);
        Made.lease(q, 0, Made.PASTURE, 1, 1, 4);
        q.pass(2);
        Check.isText("in autumn", Check.row(q.ofVillage(0, 6), q.ofVillage(0, 7)), "81 1");
        q.pass(1);
        Check.isText("121 are too many", people(q), "8 0 0 60");
        Check.isText("fled, unrest", Check.row(q.ofVillage(0, 13), q.ofVillage(0, 7)), "2 3");
    }

    private static void aFifthOfHouses() {
        int[] houses = {1, 2, 4, 5, 9, 10, 14, 15, 90};
        int[] going = {0, 1, 1, 1, 1, 2, 2, 3, 18};
        int[] debts = {8, 17, 35, 44, 80, 89, 124, 133, 801};
        for (int k = 0; k < houses.length; k++) {
            Publicanry p = new Publicanry();
            p.village(houses[k], 0, 0, 1);
            p.pass(8);
            Check.isText("flight of " + houses[k], people(p), Check.row(houses[k] - going[k], 0, 0, debts[k]));
            Check.isText("fled, unrest, all houses", Check.row(p.ofVillage(0, 13), p.ofVillage(0, 7), p.land(13)),
                Check.row(going[k], 2, houses[k] - going[k]));
        }
        Publicanry q = new Publicanry();
        q.village(2, 0, 0, 1);
        q.pass(20);
        Check.isText("1 stays at least", Check.row(q.ofVillage(0, 0), q.ofVillage(0, 13)), "1 1");
    }

    /** Hearths and pastures let it borrow 618, so that houses flee in autumn and in winter. */
    private static void sellByTheHousesThatAreLeft() {
        Publicanry p = Made.rich();
        p.edict(1, 60, 0);
        p.edict(2, 9, 0);
        p.pass(4);
        p.village(10, 100, 600, 9);
        p.force(0, 3);
        Made.lease(p, 0, Made.PASTURE, 2, 1, 4);
        Made.lease(p, 0, Made.HEARTH, 2, 1, 4);
        p.pass(2);
        Check.isText("618 are halved", Check.row(p.ofVillage(1, 0), p.ofVillage(1, 4), p.ofVillage(1, 6)), "8 140 309");
        p.pass(1);
        Check.isText("132 of grain for 7 houses: 90 are sold, 154 owed", Check.row(p.ofVillage(1, 0), p.ofVillage(1, 4),
            p.ofVillage(1, 5), p.ofVillage(1, 6)), "7 42 26 0");
    }

    private static void unrestIsOneLess() {
        Publicanry p = Made.rich();
        p.quarter(0);
        int[] want = {2, 1, 0, 0};
        for (int unrest : want) {
            p.pass(1);
            Check.is("unrest", p.ofVillage(0, 7), unrest);
        }
    }

    private static void unrestAtMost() {
        Publicanry p = Made.rich();
        for (int k = 1; k <= 8; k++) {
            p.quarter(0);
            Check.is("3 more, 20 at most", p.ofVillage(0, 7), Math.min(3 * k, 20));
        }
        Publicanry q = new Publicanry();
        q.village(1, 0, 0, 1);
        q.pass(7);
        for (int k = 0; k < 7; k++) {
            q.quarter(0);
        }
        q.pass(1);
        Check.isText("a flight at 20", Check.row(q.ofVillage(0, 6), q.ofVillage(0, 7)), "8 20");
    }

    private static Publicanry withUnrest(int quarters) {
        Publicanry p = Made.rich();
        for (int k = 0; k < quarters; k++) {
            p.quarter(0);
        }
        return p;
    }

    private static void revoltFromTwelve() {
        Publicanry p = withUnrest(4);
        Check.isText("12 is none till it is asked", Check.row(p.ofVillage(0, 7), p.ofVillage(0, 10)), "12 0");
        p.pass(1);
        Check.isText("11 then is none", Check.row(p.ofVillage(0, 7), p.ofVillage(0, 10)), "11 0");
        Publicanry q = withUnrest(1);
        q.pass(2);
        for (int k = 0; k < 4; k++) {
            q.quarter(0);
        }
        Check.is("13", q.ofVillage(0, 7), 13);
        q.pass(1);
        Check.isText("12 then is one", Check.row(q.ofVillage(0, 7), q.ofVillage(0, 10)), "12 1");
        q.pass(1);
        Check.isText("11 behind that too", Check.row(q.ofVillage(0, 7), q.ofVillage(0, 10)), "11 1");
    }

    private static void revoltByAFlight() {
        Publicanry p = new Publicanry();
        p.village(1, 0, 0, 1);
        p.pass(5);
        for (int k = 0; k < 4; k++) {
            p.quarter(0);
        }
        p.pass(2);
        Check.isText("10 in winter", Check.row(p.ofVillage(0, 7), p.ofVillage(0, 10)), "10 0");
        p.pass(1);
        Check.isText("12 by a flight", Check.row(p.ofVillage(0, 7), p.ofVillage(0, 10)), "12 1");
        Publicanry q = new Publicanry();
        q.village(1, 0, 0, 1);
        q.pass(7);
        for (int k = 0; k < 3; k++) {
            q.quarter(0);
        }
        q.pass(1);
        Check.isText("11 by a flight", Check.row(q.ofVillage(0, 7), q.ofVillage(0, 10)), "11 0");
    }

    private static void revoltTillLessThanFive() {
        Publicanry p = withUnrest(7);
        p.pass(15);
        Check.isText("5 is one still", Check.row(p.ofVillage(0, 7), p.ofVillage(0, 10)), "5 1");
        p.pass(1);
        Check.isText("4 is none", Check.row(p.ofVillage(0, 7), p.ofVillage(0, 10)), "4 0");
        Publicanry q = withUnrest(3);
        q.pass(4);
        Check.isText("5 that was none is none", Check.row(q.ofVillage(0, 7), q.ofVillage(0, 10)), "5 0");
    }

    private static void revoltPaysNoDuties() {
        Publicanry p = withUnrest(7);
        p.force(0, 3);
        for (int duty = 0; duty < 3; duty++) {
            Made.lease(p, 0, duty, 1, 5, 5);
            p.clerks(duty, true);
        }
        p.pass(3);
        Check.isText("no levy", Check.row(p.levy(0, 0, 0), p.levy(0, 1, 0), p.levy(0, 2, 0), p.ofCompany(0, 11)), "-1 -1 -1 0");
        Check.isText("unrest is less, grain is sold", Check.row(p.ofVillage(0, 7), p.ofVillage(0, 5)), "17 1160");
        Check.isText("troops are paid for", Check.row(p.quarter(0), p.ofVillage(0, 7), p.ofVillage(0, 5)), "10 17 1150");
        Publicanry q = withUnrest(7);
        Made.lease(q, 0, Made.TENTH, 1, 1, 8);
        for (int duty = 0; duty < 3; duty++) {
            q.clerks(duty, true);
        }
        q.pass(6);
        Check.isText("nor do clerks ask", Check.row(q.law(0, 4), q.law(1, 4), q.law(2, 4), q.land(6)), "0 0 0 8");
    }

    /** Unrest that is 12 or more between two seasons, and less as it is asked, makes none. */
    private static void revoltIsAskedOnceASeason() {
        Publicanry p = Made.rich();
        p.village(10, 0, 0, 1);
        p.force(0, 2);
        p.lot(Made.HEARTH, 3, 1, 0);
        p.bid(0, 0, 4);
        p.award(0);
        for (int k = 0; k < 7; k++) {
            p.quarter(0);
        }
        Check.is("asked while it is none", p.wouldBring(0, 3), 2 * 27 - 27 * 5 / 16);
        p.pass(1);
        Check.is("not asked then", p.wouldBring(0, 3), 27);
    }
}
